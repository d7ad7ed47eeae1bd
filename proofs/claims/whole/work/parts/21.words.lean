theorem qa_lvok {lv : qa_L} {args : List Value} (h : qa_pr 0 lv = lv_args 0 args) : ∀ i v, qa_gt lv i = some v → (i, v) ∈ lv_args 0 args := fun i v hi => h ▸ (qa_pr_mem lv 0 i v).mpr ⟨i, by omega, hi⟩
def ym_Sd_init : MethodName := ⟨"SealedRecords$Side", "<init>", "()V"⟩
theorem yd_Sd_init : ym_Sd_init.cls ≠ "java/lang/invoke/MethodHandle" ∧ ym_Sd_init.cls ≠ "java/lang/invoke/VarHandle" ∧ (parseMethodDescriptor ym_Sd_init.desc).map (fun d => d.parameters.length) = some 0 := by decide +kernel
def rm_Sd_init : Room := { frames := 1, cells := 0, slots := 0, locals := 20 }
def ym_Pk_init : MethodName := ⟨"SealedRecords$Packet", "<init>", "(I)V"⟩
theorem yd_Pk_init : ym_Pk_init.cls ≠ "java/lang/invoke/MethodHandle" ∧ ym_Pk_init.cls ≠ "java/lang/invoke/VarHandle" ∧ (parseMethodDescriptor ym_Pk_init.desc).map (fun d => d.parameters.length) = some 1 := by decide +kernel
def rm_Pk_init : Room := { frames := 1, cells := 1, slots := 40, locals := 20 }
def ym_Rw_init : MethodName := ⟨"SealedRecords$Row", "<init>", "(II)V"⟩
theorem yd_Rw_init : ym_Rw_init.cls ≠ "java/lang/invoke/MethodHandle" ∧ ym_Rw_init.cls ≠ "java/lang/invoke/VarHandle" ∧ (parseMethodDescriptor ym_Rw_init.desc).map (fun d => d.parameters.length) = some 2 := by decide +kernel
def rm_Rw_init : Room := { frames := 2, cells := 33, slots := 704, locals := 41 }
def ym_Ms_init : MethodName := ⟨"SealedRecords$Messages", "<init>", "()V"⟩
theorem yd_Ms_init : ym_Ms_init.cls ≠ "java/lang/invoke/MethodHandle" ∧ ym_Ms_init.cls ≠ "java/lang/invoke/VarHandle" ∧ (parseMethodDescriptor ym_Ms_init.desc).map (fun d => d.parameters.length) = some 0 := by decide +kernel
def rm_Ms_init : Room := { frames := 1, cells := 0, slots := 0, locals := 20 }
def ym_En_init : MethodName := ⟨"SealedRecords$End", "<init>", "(I)V"⟩
theorem yd_En_init : ym_En_init.cls ≠ "java/lang/invoke/MethodHandle" ∧ ym_En_init.cls ≠ "java/lang/invoke/VarHandle" ∧ (parseMethodDescriptor ym_En_init.desc).map (fun d => d.parameters.length) = some 1 := by decide +kernel
def rm_En_init : Room := { frames := 3, cells := 76, slots := 1512, locals := 64 }
def ym_SR_init : MethodName := ⟨"SealedRecords", "<init>", "(I)V"⟩
theorem yd_SR_init : ym_SR_init.cls ≠ "java/lang/invoke/MethodHandle" ∧ ym_SR_init.cls ≠ "java/lang/invoke/VarHandle" ∧ (parseMethodDescriptor ym_SR_init.desc).map (fun d => d.parameters.length) = some 1 := by decide +kernel
def rm_SR_init : Room := { frames := 4, cells := 155, slots := 3052, locals := 85 }
def ym_SR_isEnd : MethodName := ⟨"SealedRecords", "isEnd", "(I)Z"⟩
theorem yd_SR_isEnd : ym_SR_isEnd.cls ≠ "java/lang/invoke/MethodHandle" ∧ ym_SR_isEnd.cls ≠ "java/lang/invoke/VarHandle" ∧ (parseMethodDescriptor ym_SR_isEnd.desc).map (fun d => d.parameters.length) = some 1 := by decide +kernel
def rm_SR_isEnd : Room := { frames := 0, cells := 0, slots := 0, locals := 0 }
def ym_SR_mix : MethodName := ⟨"SealedRecords", "mix", "(JJ)J"⟩
theorem yd_SR_mix : ym_SR_mix.cls ≠ "java/lang/invoke/MethodHandle" ∧ ym_SR_mix.cls ≠ "java/lang/invoke/VarHandle" ∧ (parseMethodDescriptor ym_SR_mix.desc).map (fun d => d.parameters.length) = some 2 := by decide +kernel
def rm_SR_mix : Room := { frames := 0, cells := 0, slots := 0, locals := 0 }
def ym_SR_secret : MethodName := ⟨"SealedRecords", "secret", "(IJ)Z"⟩
theorem yd_SR_secret : ym_SR_secret.cls ≠ "java/lang/invoke/MethodHandle" ∧ ym_SR_secret.cls ≠ "java/lang/invoke/VarHandle" ∧ (parseMethodDescriptor ym_SR_secret.desc).map (fun d => d.parameters.length) = some 2 := by decide +kernel
def rm_SR_secret : Room := { frames := 1, cells := 0, slots := 0, locals := 25 }
def ym_Ms_isOpen : MethodName := ⟨"SealedRecords$Messages", "isOpen", "()Z"⟩
theorem yd_Ms_isOpen : ym_Ms_isOpen.cls ≠ "java/lang/invoke/MethodHandle" ∧ ym_Ms_isOpen.cls ≠ "java/lang/invoke/VarHandle" ∧ (parseMethodDescriptor ym_Ms_isOpen.desc).map (fun d => d.parameters.length) = some 0 := by decide +kernel
def rm_Ms_isOpen : Room := { frames := 0, cells := 0, slots := 0, locals := 0 }
def ym_En_closeReceiving : MethodName := ⟨"SealedRecords$End", "closeReceiving", "(I)V"⟩
theorem yd_En_closeReceiving : ym_En_closeReceiving.cls ≠ "java/lang/invoke/MethodHandle" ∧ ym_En_closeReceiving.cls ≠ "java/lang/invoke/VarHandle" ∧ (parseMethodDescriptor ym_En_closeReceiving.desc).map (fun d => d.parameters.length) = some 1 := by decide +kernel
def rm_En_closeReceiving : Room := { frames := 0, cells := 0, slots := 0, locals := 0 }
def ym_En_raiseAlert : MethodName := ⟨"SealedRecords$End", "raiseAlert", "(I)I"⟩
theorem yd_En_raiseAlert : ym_En_raiseAlert.cls ≠ "java/lang/invoke/MethodHandle" ∧ ym_En_raiseAlert.cls ≠ "java/lang/invoke/VarHandle" ∧ (parseMethodDescriptor ym_En_raiseAlert.desc).map (fun d => d.parameters.length) = some 1 := by decide +kernel
def rm_En_raiseAlert : Room := { frames := 1, cells := 0, slots := 0, locals := 21 }
def ym_En_sendingSecret : MethodName := ⟨"SealedRecords$End", "sendingSecret", "()J"⟩
theorem yd_En_sendingSecret : ym_En_sendingSecret.cls ≠ "java/lang/invoke/MethodHandle" ∧ ym_En_sendingSecret.cls ≠ "java/lang/invoke/VarHandle" ∧ (parseMethodDescriptor ym_En_sendingSecret.desc).map (fun d => d.parameters.length) = some 0 := by decide +kernel
def rm_En_sendingSecret : Room := { frames := 1, cells := 0, slots := 0, locals := 25 }
def ym_En_receivingSecret : MethodName := ⟨"SealedRecords$End", "receivingSecret", "()J"⟩
theorem yd_En_receivingSecret : ym_En_receivingSecret.cls ≠ "java/lang/invoke/MethodHandle" ∧ ym_En_receivingSecret.cls ≠ "java/lang/invoke/VarHandle" ∧ (parseMethodDescriptor ym_En_receivingSecret.desc).map (fun d => d.parameters.length) = some 0 := by decide +kernel
def rm_En_receivingSecret : Room := { frames := 1, cells := 0, slots := 0, locals := 25 }
def ym_Sd_useSecret : MethodName := ⟨"SealedRecords$Side", "useSecret", "(J)V"⟩
theorem yd_Sd_useSecret : ym_Sd_useSecret.cls ≠ "java/lang/invoke/MethodHandle" ∧ ym_Sd_useSecret.cls ≠ "java/lang/invoke/VarHandle" ∧ (parseMethodDescriptor ym_Sd_useSecret.desc).map (fun d => d.parameters.length) = some 1 := by decide +kernel
def rm_Sd_useSecret : Room := { frames := 0, cells := 0, slots := 0, locals := 0 }
def ym_SR_key : MethodName := ⟨"SealedRecords", "key", "(IZ)I"⟩
theorem yd_SR_key : ym_SR_key.cls ≠ "java/lang/invoke/MethodHandle" ∧ ym_SR_key.cls ≠ "java/lang/invoke/VarHandle" ∧ (parseMethodDescriptor ym_SR_key.desc).map (fun d => d.parameters.length) = some 2 := by decide +kernel
def rm_SR_key : Room := { frames := 2, cells := 0, slots := 0, locals := 45 }
def ym_Sd_changeSecret : MethodName := ⟨"SealedRecords$Side", "changeSecret", "()V"⟩
theorem yd_Sd_changeSecret : ym_Sd_changeSecret.cls ≠ "java/lang/invoke/MethodHandle" ∧ ym_Sd_changeSecret.cls ≠ "java/lang/invoke/VarHandle" ∧ (parseMethodDescriptor ym_Sd_changeSecret.desc).map (fun d => d.parameters.length) = some 0 := by decide +kernel
def rm_Sd_changeSecret : Room := { frames := 1, cells := 0, slots := 0, locals := 25 }
def ym_SR_advance : MethodName := ⟨"SealedRecords", "advance", "(I)Z"⟩
theorem yd_SR_advance : ym_SR_advance.cls ≠ "java/lang/invoke/MethodHandle" ∧ ym_SR_advance.cls ≠ "java/lang/invoke/VarHandle" ∧ (parseMethodDescriptor ym_SR_advance.desc).map (fun d => d.parameters.length) = some 1 := by decide +kernel
def rm_SR_advance : Room := { frames := 2, cells := 0, slots := 0, locals := 45 }
def ym_SR_isByte : MethodName := ⟨"SealedRecords", "isByte", "(I)Z"⟩
theorem yd_SR_isByte : ym_SR_isByte.cls ≠ "java/lang/invoke/MethodHandle" ∧ ym_SR_isByte.cls ≠ "java/lang/invoke/VarHandle" ∧ (parseMethodDescriptor ym_SR_isByte.desc).map (fun d => d.parameters.length) = some 1 := by decide +kernel
def rm_SR_isByte : Room := { frames := 0, cells := 0, slots := 0, locals := 0 }
def ym_Pk_isFull : MethodName := ⟨"SealedRecords$Packet", "isFull", "()Z"⟩
theorem yd_Pk_isFull : ym_Pk_isFull.cls ≠ "java/lang/invoke/MethodHandle" ∧ ym_Pk_isFull.cls ≠ "java/lang/invoke/VarHandle" ∧ (parseMethodDescriptor ym_Pk_isFull.desc).map (fun d => d.parameters.length) = some 0 := by decide +kernel
def rm_Pk_isFull : Room := { frames := 0, cells := 0, slots := 0, locals := 0 }
def ym_Pk_append : MethodName := ⟨"SealedRecords$Packet", "append", "(I)V"⟩
theorem yd_Pk_append : ym_Pk_append.cls ≠ "java/lang/invoke/MethodHandle" ∧ ym_Pk_append.cls ≠ "java/lang/invoke/VarHandle" ∧ (parseMethodDescriptor ym_Pk_append.desc).map (fun d => d.parameters.length) = some 1 := by decide +kernel
def rm_Pk_append : Room := { frames := 0, cells := 0, slots := 0, locals := 0 }
def ym_SR_write : MethodName := ⟨"SealedRecords", "write", "(II)Z"⟩
theorem yd_SR_write : ym_SR_write.cls ≠ "java/lang/invoke/MethodHandle" ∧ ym_SR_write.cls ≠ "java/lang/invoke/VarHandle" ∧ (parseMethodDescriptor ym_SR_write.desc).map (fun d => d.parameters.length) = some 2 := by decide +kernel
def rm_SR_write : Room := { frames := 1, cells := 0, slots := 0, locals := 21 }
def ym_En_allowsPadding : MethodName := ⟨"SealedRecords$End", "allowsPadding", "(I)Z"⟩
theorem yd_En_allowsPadding : ym_En_allowsPadding.cls ≠ "java/lang/invoke/MethodHandle" ∧ ym_En_allowsPadding.cls ≠ "java/lang/invoke/VarHandle" ∧ (parseMethodDescriptor ym_En_allowsPadding.desc).map (fun d => d.parameters.length) = some 1 := by decide +kernel
def rm_En_allowsPadding : Room := { frames := 0, cells := 0, slots := 0, locals := 0 }
def ym_Rw_isFull : MethodName := ⟨"SealedRecords$Row", "isFull", "()Z"⟩
theorem yd_Rw_isFull : ym_Rw_isFull.cls ≠ "java/lang/invoke/MethodHandle" ∧ ym_Rw_isFull.cls ≠ "java/lang/invoke/VarHandle" ∧ (parseMethodDescriptor ym_Rw_isFull.desc).map (fun d => d.parameters.length) = some 0 := by decide +kernel
def rm_Rw_isFull : Room := { frames := 0, cells := 0, slots := 0, locals := 0 }
def ym_Rw_addNewest : MethodName := ⟨"SealedRecords$Row", "addNewest", "()LSealedRecords$Packet;"⟩
theorem yd_Rw_addNewest : ym_Rw_addNewest.cls ≠ "java/lang/invoke/MethodHandle" ∧ ym_Rw_addNewest.cls ≠ "java/lang/invoke/VarHandle" ∧ (parseMethodDescriptor ym_Rw_addNewest.desc).map (fun d => d.parameters.length) = some 0 := by decide +kernel
def rm_Rw_addNewest : Room := { frames := 0, cells := 0, slots := 0, locals := 0 }
def ym_Pk_restart : MethodName := ⟨"SealedRecords$Packet", "restart", "(I)V"⟩
theorem yd_Pk_restart : ym_Pk_restart.cls ≠ "java/lang/invoke/MethodHandle" ∧ ym_Pk_restart.cls ≠ "java/lang/invoke/VarHandle" ∧ (parseMethodDescriptor ym_Pk_restart.desc).map (fun d => d.parameters.length) = some 1 := by decide +kernel
def rm_Pk_restart : Room := { frames := 0, cells := 0, slots := 0, locals := 0 }
def ym_Pk_becomeLike : MethodName := ⟨"SealedRecords$Packet", "becomeLike", "(LSealedRecords$Packet;)V"⟩
theorem yd_Pk_becomeLike : ym_Pk_becomeLike.cls ≠ "java/lang/invoke/MethodHandle" ∧ ym_Pk_becomeLike.cls ≠ "java/lang/invoke/VarHandle" ∧ (parseMethodDescriptor ym_Pk_becomeLike.desc).map (fun d => d.parameters.length) = some 1 := by decide +kernel
def rm_Pk_becomeLike : Room := { frames := 1, cells := 0, slots := 0, locals := 21 }
def ym_Sd_maskSeed : MethodName := ⟨"SealedRecords$Side", "maskSeed", "()J"⟩
theorem yd_Sd_maskSeed : ym_Sd_maskSeed.cls ≠ "java/lang/invoke/MethodHandle" ∧ ym_Sd_maskSeed.cls ≠ "java/lang/invoke/VarHandle" ∧ (parseMethodDescriptor ym_Sd_maskSeed.desc).map (fun d => d.parameters.length) = some 0 := by decide +kernel
def rm_Sd_maskSeed : Room := { frames := 1, cells := 0, slots := 0, locals := 25 }
def ym_Sd_maskByte : MethodName := ⟨"SealedRecords$Side", "maskByte", "(JI)I"⟩
theorem yd_Sd_maskByte : ym_Sd_maskByte.cls ≠ "java/lang/invoke/MethodHandle" ∧ ym_Sd_maskByte.cls ≠ "java/lang/invoke/VarHandle" ∧ (parseMethodDescriptor ym_Sd_maskByte.desc).map (fun d => d.parameters.length) = some 2 := by decide +kernel
def rm_Sd_maskByte : Room := { frames := 1, cells := 0, slots := 0, locals := 25 }
def ym_Sd_tagOf : MethodName := ⟨"SealedRecords$Side", "tagOf", "([II)J"⟩
theorem yd_Sd_tagOf : ym_Sd_tagOf.cls ≠ "java/lang/invoke/MethodHandle" ∧ ym_Sd_tagOf.cls ≠ "java/lang/invoke/VarHandle" ∧ (parseMethodDescriptor ym_Sd_tagOf.desc).map (fun d => d.parameters.length) = some 2 := by decide +kernel
def rm_Sd_tagOf : Room := { frames := 1, cells := 0, slots := 0, locals := 25 }
def ym_Sd_tagByte : MethodName := ⟨"SealedRecords$Side", "tagByte", "(JI)I"⟩
theorem yd_Sd_tagByte : ym_Sd_tagByte.cls ≠ "java/lang/invoke/MethodHandle" ∧ ym_Sd_tagByte.cls ≠ "java/lang/invoke/VarHandle" ∧ (parseMethodDescriptor ym_Sd_tagByte.desc).map (fun d => d.parameters.length) = some 2 := by decide +kernel
def rm_Sd_tagByte : Room := { frames := 0, cells := 0, slots := 0, locals := 0 }
def ym_En_maskAndTag : MethodName := ⟨"SealedRecords$End", "maskAndTag", "(LSealedRecords$Packet;)V"⟩
theorem yd_En_maskAndTag : ym_En_maskAndTag.cls ≠ "java/lang/invoke/MethodHandle" ∧ ym_En_maskAndTag.cls ≠ "java/lang/invoke/VarHandle" ∧ (parseMethodDescriptor ym_En_maskAndTag.desc).map (fun d => d.parameters.length) = some 1 := by decide +kernel
def rm_En_maskAndTag : Room := { frames := 2, cells := 0, slots := 0, locals := 50 }
def ym_En_sealDraft : MethodName := ⟨"SealedRecords$End", "sealDraft", "(IILSealedRecords$Packet;)V"⟩
theorem yd_En_sealDraft : ym_En_sealDraft.cls ≠ "java/lang/invoke/MethodHandle" ∧ ym_En_sealDraft.cls ≠ "java/lang/invoke/VarHandle" ∧ (parseMethodDescriptor ym_En_sealDraft.desc).map (fun d => d.parameters.length) = some 3 := by decide +kernel
def rm_En_sealDraft : Room := { frames := 3, cells := 0, slots := 0, locals := 77 }
def ym_SR_seal : MethodName := ⟨"SealedRecords", "seal", "(III)I"⟩
theorem yd_SR_seal : ym_SR_seal.cls ≠ "java/lang/invoke/MethodHandle" ∧ ym_SR_seal.cls ≠ "java/lang/invoke/VarHandle" ∧ (parseMethodDescriptor ym_SR_seal.desc).map (fun d => d.parameters.length) = some 3 := by decide +kernel
def rm_SR_seal : Room := { frames := 4, cells := 0, slots := 0, locals := 101 }
def ym_Rw_has : MethodName := ⟨"SealedRecords$Row", "has", "(I)Z"⟩
theorem yd_Rw_has : ym_Rw_has.cls ≠ "java/lang/invoke/MethodHandle" ∧ ym_Rw_has.cls ≠ "java/lang/invoke/VarHandle" ∧ (parseMethodDescriptor ym_Rw_has.desc).map (fun d => d.parameters.length) = some 1 := by decide +kernel
def rm_Rw_has : Room := { frames := 0, cells := 0, slots := 0, locals := 0 }
def ym_Rw_remove : MethodName := ⟨"SealedRecords$Row", "remove", "(I)LSealedRecords$Packet;"⟩
theorem yd_Rw_remove : ym_Rw_remove.cls ≠ "java/lang/invoke/MethodHandle" ∧ ym_Rw_remove.cls ≠ "java/lang/invoke/VarHandle" ∧ (parseMethodDescriptor ym_Rw_remove.desc).map (fun d => d.parameters.length) = some 1 := by decide +kernel
def rm_Rw_remove : Room := { frames := 0, cells := 0, slots := 0, locals := 0 }
def ym_En_isIgnored : MethodName := ⟨"SealedRecords$End", "isIgnored", "(LSealedRecords$Packet;)Z"⟩
theorem yd_En_isIgnored : ym_En_isIgnored.cls ≠ "java/lang/invoke/MethodHandle" ∧ ym_En_isIgnored.cls ≠ "java/lang/invoke/VarHandle" ∧ (parseMethodDescriptor ym_En_isIgnored.desc).map (fun d => d.parameters.length) = some 1 := by decide +kernel
def rm_En_isIgnored : Room := { frames := 0, cells := 0, slots := 0, locals := 0 }
def ym_En_openPlain : MethodName := ⟨"SealedRecords$End", "openPlain", "(LSealedRecords$Packet;)I"⟩
theorem yd_En_openPlain : ym_En_openPlain.cls ≠ "java/lang/invoke/MethodHandle" ∧ ym_En_openPlain.cls ≠ "java/lang/invoke/VarHandle" ∧ (parseMethodDescriptor ym_En_openPlain.desc).map (fun d => d.parameters.length) = some 1 := by decide +kernel
def rm_En_openPlain : Room := { frames := 2, cells := 0, slots := 0, locals := 43 }
def ym_Sd_endsWithTag : MethodName := ⟨"SealedRecords$Side", "endsWithTag", "(LSealedRecords$Packet;)Z"⟩
theorem yd_Sd_endsWithTag : ym_Sd_endsWithTag.cls ≠ "java/lang/invoke/MethodHandle" ∧ ym_Sd_endsWithTag.cls ≠ "java/lang/invoke/VarHandle" ∧ (parseMethodDescriptor ym_Sd_endsWithTag.desc).map (fun d => d.parameters.length) = some 1 := by decide +kernel
def rm_Sd_endsWithTag : Room := { frames := 2, cells := 0, slots := 0, locals := 50 }
def ym_En_openSealed : MethodName := ⟨"SealedRecords$End", "openSealed", "(LSealedRecords$Packet;)I"⟩
theorem yd_En_openSealed : ym_En_openSealed.cls ≠ "java/lang/invoke/MethodHandle" ∧ ym_En_openSealed.cls ≠ "java/lang/invoke/VarHandle" ∧ (parseMethodDescriptor ym_En_openSealed.desc).map (fun d => d.parameters.length) = some 1 := by decide +kernel
def rm_En_openSealed : Room := { frames := 2, cells := 0, slots := 0, locals := 47 }
def ym_En_open : MethodName := ⟨"SealedRecords$End", "open", "(LSealedRecords$Packet;)I"⟩
theorem yd_En_open : ym_En_open.cls ≠ "java/lang/invoke/MethodHandle" ∧ ym_En_open.cls ≠ "java/lang/invoke/VarHandle" ∧ (parseMethodDescriptor ym_En_open.desc).map (fun d => d.parameters.length) = some 1 := by decide +kernel
def rm_En_open : Room := { frames := 3, cells := 0, slots := 0, locals := 75 }
def ym_Ms_becomeLike : MethodName := ⟨"SealedRecords$Messages", "becomeLike", "(LSealedRecords$Messages;)V"⟩
theorem yd_Ms_becomeLike : ym_Ms_becomeLike.cls ≠ "java/lang/invoke/MethodHandle" ∧ ym_Ms_becomeLike.cls ≠ "java/lang/invoke/VarHandle" ∧ (parseMethodDescriptor ym_Ms_becomeLike.desc).map (fun d => d.parameters.length) = some 1 := by decide +kernel
def rm_Ms_becomeLike : Room := { frames := 0, cells := 0, slots := 0, locals := 0 }
def ym_Ms_completesWith : MethodName := ⟨"SealedRecords$Messages", "completesWith", "(I)Z"⟩
theorem yd_Ms_completesWith : ym_Ms_completesWith.cls ≠ "java/lang/invoke/MethodHandle" ∧ ym_Ms_completesWith.cls ≠ "java/lang/invoke/VarHandle" ∧ (parseMethodDescriptor ym_Ms_completesWith.desc).map (fun d => d.parameters.length) = some 1 := by decide +kernel
def rm_Ms_completesWith : Room := { frames := 0, cells := 0, slots := 0, locals := 0 }
def ym_En_judgeKeyChange : MethodName := ⟨"SealedRecords$End", "judgeKeyChange", "(II)I"⟩
theorem yd_En_judgeKeyChange : ym_En_judgeKeyChange.cls ≠ "java/lang/invoke/MethodHandle" ∧ ym_En_judgeKeyChange.cls ≠ "java/lang/invoke/VarHandle" ∧ (parseMethodDescriptor ym_En_judgeKeyChange.desc).map (fun d => d.parameters.length) = some 2 := by decide +kernel
def rm_En_judgeKeyChange : Room := { frames := 0, cells := 0, slots := 0, locals := 0 }
def ym_En_judgeMessages : MethodName := ⟨"SealedRecords$End", "judgeMessages", "()I"⟩
theorem yd_En_judgeMessages : ym_En_judgeMessages.cls ≠ "java/lang/invoke/MethodHandle" ∧ ym_En_judgeMessages.cls ≠ "java/lang/invoke/VarHandle" ∧ (parseMethodDescriptor ym_En_judgeMessages.desc).map (fun d => d.parameters.length) = some 0 := by decide +kernel
def rm_En_judgeMessages : Room := { frames := 1, cells := 0, slots := 0, locals := 22 }
def ym_En_judge : MethodName := ⟨"SealedRecords$End", "judge", "()I"⟩
theorem yd_En_judge : ym_En_judge.cls ≠ "java/lang/invoke/MethodHandle" ∧ ym_En_judge.cls ≠ "java/lang/invoke/VarHandle" ∧ (parseMethodDescriptor ym_En_judge.desc).map (fun d => d.parameters.length) = some 0 := by decide +kernel
def rm_En_judge : Room := { frames := 2, cells := 0, slots := 0, locals := 43 }
def ym_En_changeKey : MethodName := ⟨"SealedRecords$End", "changeKey", "(I)V"⟩
theorem yd_En_changeKey : ym_En_changeKey.cls ≠ "java/lang/invoke/MethodHandle" ∧ ym_En_changeKey.cls ≠ "java/lang/invoke/VarHandle" ∧ (parseMethodDescriptor ym_En_changeKey.desc).map (fun d => d.parameters.length) = some 1 := by decide +kernel
def rm_En_changeKey : Room := { frames := 2, cells := 0, slots := 0, locals := 45 }
def ym_En_acceptMessages : MethodName := ⟨"SealedRecords$End", "acceptMessages", "()V"⟩
theorem yd_En_acceptMessages : ym_En_acceptMessages.cls ≠ "java/lang/invoke/MethodHandle" ∧ ym_En_acceptMessages.cls ≠ "java/lang/invoke/VarHandle" ∧ (parseMethodDescriptor ym_En_acceptMessages.desc).map (fun d => d.parameters.length) = some 0 := by decide +kernel
def rm_En_acceptMessages : Room := { frames := 3, cells := 0, slots := 0, locals := 66 }
def ym_En_accept : MethodName := ⟨"SealedRecords$End", "accept", "()V"⟩
theorem yd_En_accept : ym_En_accept.cls ≠ "java/lang/invoke/MethodHandle" ∧ ym_En_accept.cls ≠ "java/lang/invoke/VarHandle" ∧ (parseMethodDescriptor ym_En_accept.desc).map (fun d => d.parameters.length) = some 0 := by decide +kernel
def rm_En_accept : Room := { frames := 4, cells := 0, slots := 0, locals := 88 }
def ym_En_receive : MethodName := ⟨"SealedRecords$End", "receive", "(LSealedRecords$Packet;)I"⟩
theorem yd_En_receive : ym_En_receive.cls ≠ "java/lang/invoke/MethodHandle" ∧ ym_En_receive.cls ≠ "java/lang/invoke/VarHandle" ∧ (parseMethodDescriptor ym_En_receive.desc).map (fun d => d.parameters.length) = some 1 := by decide +kernel
def rm_En_receive : Room := { frames := 5, cells := 0, slots := 0, locals := 108 }
def ym_SR_deliver : MethodName := ⟨"SealedRecords", "deliver", "(I)I"⟩
theorem yd_SR_deliver : ym_SR_deliver.cls ≠ "java/lang/invoke/MethodHandle" ∧ ym_SR_deliver.cls ≠ "java/lang/invoke/VarHandle" ∧ (parseMethodDescriptor ym_SR_deliver.desc).map (fun d => d.parameters.length) = some 1 := by decide +kernel
def rm_SR_deliver : Room := { frames := 6, cells := 0, slots := 0, locals := 130 }
def ym_SR_isOnWire : MethodName := ⟨"SealedRecords", "isOnWire", "(II)Z"⟩
theorem yd_SR_isOnWire : ym_SR_isOnWire.cls ≠ "java/lang/invoke/MethodHandle" ∧ ym_SR_isOnWire.cls ≠ "java/lang/invoke/VarHandle" ∧ (parseMethodDescriptor ym_SR_isOnWire.desc).map (fun d => d.parameters.length) = some 2 := by decide +kernel
def rm_SR_isOnWire : Room := { frames := 1, cells := 0, slots := 0, locals := 21 }
def ym_SR_alter : MethodName := ⟨"SealedRecords", "alter", "(IIII)Z"⟩
theorem yd_SR_alter : ym_SR_alter.cls ≠ "java/lang/invoke/MethodHandle" ∧ ym_SR_alter.cls ≠ "java/lang/invoke/VarHandle" ∧ (parseMethodDescriptor ym_SR_alter.desc).map (fun d => d.parameters.length) = some 4 := by decide +kernel
def rm_SR_alter : Room := { frames := 2, cells := 0, slots := 0, locals := 43 }
def ym_SR_cut : MethodName := ⟨"SealedRecords", "cut", "(II)Z"⟩
theorem yd_SR_cut : ym_SR_cut.cls ≠ "java/lang/invoke/MethodHandle" ∧ ym_SR_cut.cls ≠ "java/lang/invoke/VarHandle" ∧ (parseMethodDescriptor ym_SR_cut.desc).map (fun d => d.parameters.length) = some 2 := by decide +kernel
def rm_SR_cut : Room := { frames := 2, cells := 0, slots := 0, locals := 43 }
def ym_SR_lose : MethodName := ⟨"SealedRecords", "lose", "(II)Z"⟩
theorem yd_SR_lose : ym_SR_lose.cls ≠ "java/lang/invoke/MethodHandle" ∧ ym_SR_lose.cls ≠ "java/lang/invoke/VarHandle" ∧ (parseMethodDescriptor ym_SR_lose.desc).map (fun d => d.parameters.length) = some 2 := by decide +kernel
def rm_SR_lose : Room := { frames := 2, cells := 0, slots := 0, locals := 43 }
def ym_SR_copy : MethodName := ⟨"SealedRecords", "copy", "(II)Z"⟩
theorem yd_SR_copy : ym_SR_copy.cls ≠ "java/lang/invoke/MethodHandle" ∧ ym_SR_copy.cls ≠ "java/lang/invoke/VarHandle" ∧ (parseMethodDescriptor ym_SR_copy.desc).map (fun d => d.parameters.length) = some 2 := by decide +kernel
def rm_SR_copy : Room := { frames := 2, cells := 0, slots := 0, locals := 43 }
def ym_SR_swap : MethodName := ⟨"SealedRecords", "swap", "(II)Z"⟩
theorem yd_SR_swap : ym_SR_swap.cls ≠ "java/lang/invoke/MethodHandle" ∧ ym_SR_swap.cls ≠ "java/lang/invoke/VarHandle" ∧ (parseMethodDescriptor ym_SR_swap.desc).map (fun d => d.parameters.length) = some 2 := by decide +kernel
def rm_SR_swap : Room := { frames := 2, cells := 0, slots := 0, locals := 43 }
def ym_SR_inject : MethodName := ⟨"SealedRecords", "inject", "(IIII)Z"⟩
theorem yd_SR_inject : ym_SR_inject.cls ≠ "java/lang/invoke/MethodHandle" ∧ ym_SR_inject.cls ≠ "java/lang/invoke/VarHandle" ∧ (parseMethodDescriptor ym_SR_inject.desc).map (fun d => d.parameters.length) = some 4 := by decide +kernel
def rm_SR_inject : Room := { frames := 1, cells := 0, slots := 0, locals := 21 }
def ym_SR_waiting : MethodName := ⟨"SealedRecords", "waiting", "(I)I"⟩
theorem yd_SR_waiting : ym_SR_waiting.cls ≠ "java/lang/invoke/MethodHandle" ∧ ym_SR_waiting.cls ≠ "java/lang/invoke/VarHandle" ∧ (parseMethodDescriptor ym_SR_waiting.desc).map (fun d => d.parameters.length) = some 1 := by decide +kernel
def rm_SR_waiting : Room := { frames := 1, cells := 0, slots := 0, locals := 20 }
def ym_SR_wire : MethodName := ⟨"SealedRecords", "wire", "(III)I"⟩
theorem yd_SR_wire : ym_SR_wire.cls ≠ "java/lang/invoke/MethodHandle" ∧ ym_SR_wire.cls ≠ "java/lang/invoke/VarHandle" ∧ (parseMethodDescriptor ym_SR_wire.desc).map (fun d => d.parameters.length) = some 3 := by decide +kernel
def rm_SR_wire : Room := { frames := 2, cells := 0, slots := 0, locals := 43 }
def ym_SR_items : MethodName := ⟨"SealedRecords", "items", "(I)I"⟩
theorem yd_SR_items : ym_SR_items.cls ≠ "java/lang/invoke/MethodHandle" ∧ ym_SR_items.cls ≠ "java/lang/invoke/VarHandle" ∧ (parseMethodDescriptor ym_SR_items.desc).map (fun d => d.parameters.length) = some 1 := by decide +kernel
def rm_SR_items : Room := { frames := 1, cells := 0, slots := 0, locals := 20 }
def ym_SR_item : MethodName := ⟨"SealedRecords", "item", "(II)I"⟩
theorem yd_SR_item : ym_SR_item.cls ≠ "java/lang/invoke/MethodHandle" ∧ ym_SR_item.cls ≠ "java/lang/invoke/VarHandle" ∧ (parseMethodDescriptor ym_SR_item.desc).map (fun d => d.parameters.length) = some 2 := by decide +kernel
def rm_SR_item : Room := { frames := 1, cells := 0, slots := 0, locals := 21 }
def ym_SR_take : MethodName := ⟨"SealedRecords", "take", "(I)Z"⟩
theorem yd_SR_take : ym_SR_take.cls ≠ "java/lang/invoke/MethodHandle" ∧ ym_SR_take.cls ≠ "java/lang/invoke/VarHandle" ∧ (parseMethodDescriptor ym_SR_take.desc).map (fun d => d.parameters.length) = some 1 := by decide +kernel
def rm_SR_take : Room := { frames := 1, cells := 0, slots := 0, locals := 23 }
def ym_SR_asNumber : MethodName := ⟨"SealedRecords", "asNumber", "(Z)I"⟩
theorem yd_SR_asNumber : ym_SR_asNumber.cls ≠ "java/lang/invoke/MethodHandle" ∧ ym_SR_asNumber.cls ≠ "java/lang/invoke/VarHandle" ∧ (parseMethodDescriptor ym_SR_asNumber.desc).map (fun d => d.parameters.length) = some 1 := by decide +kernel
def rm_SR_asNumber : Room := { frames := 0, cells := 0, slots := 0, locals := 0 }
def ym_SR_look : MethodName := ⟨"SealedRecords", "look", "(II)I"⟩
theorem yd_SR_look : ym_SR_look.cls ≠ "java/lang/invoke/MethodHandle" ∧ ym_SR_look.cls ≠ "java/lang/invoke/VarHandle" ∧ (parseMethodDescriptor ym_SR_look.desc).map (fun d => d.parameters.length) = some 2 := by decide +kernel
def rm_SR_look : Room := { frames := 1, cells := 0, slots := 0, locals := 20 }
def ym_Mo_init : MethodName := ⟨"SealedRecordsModel", "<init>", "(I)V"⟩
theorem yd_Mo_init : ym_Mo_init.cls ≠ "java/lang/invoke/MethodHandle" ∧ ym_Mo_init.cls ≠ "java/lang/invoke/VarHandle" ∧ (parseMethodDescriptor ym_Mo_init.desc).map (fun d => d.parameters.length) = some 1 := by decide +kernel
def rm_Mo_init : Room := { frames := 1, cells := 30, slots := 4000, locals := 20 }
def ym_Mo_mix : MethodName := ⟨"SealedRecordsModel", "mix", "(JJ)J"⟩
theorem yd_Mo_mix : ym_Mo_mix.cls ≠ "java/lang/invoke/MethodHandle" ∧ ym_Mo_mix.cls ≠ "java/lang/invoke/VarHandle" ∧ (parseMethodDescriptor ym_Mo_mix.desc).map (fun d => d.parameters.length) = some 2 := by decide +kernel
def rm_Mo_mix : Room := { frames := 0, cells := 0, slots := 0, locals := 0 }
def ym_Mo_isEnd : MethodName := ⟨"SealedRecordsModel", "isEnd", "(I)Z"⟩
theorem yd_Mo_isEnd : ym_Mo_isEnd.cls ≠ "java/lang/invoke/MethodHandle" ∧ ym_Mo_isEnd.cls ≠ "java/lang/invoke/VarHandle" ∧ (parseMethodDescriptor ym_Mo_isEnd.desc).map (fun d => d.parameters.length) = some 1 := by decide +kernel
def rm_Mo_isEnd : Room := { frames := 0, cells := 0, slots := 0, locals := 0 }
def ym_Mo_isByte : MethodName := ⟨"SealedRecordsModel", "isByte", "(I)Z"⟩
theorem yd_Mo_isByte : ym_Mo_isByte.cls ≠ "java/lang/invoke/MethodHandle" ∧ ym_Mo_isByte.cls ≠ "java/lang/invoke/VarHandle" ∧ (parseMethodDescriptor ym_Mo_isByte.desc).map (fun d => d.parameters.length) = some 1 := by decide +kernel
def rm_Mo_isByte : Room := { frames := 0, cells := 0, slots := 0, locals := 0 }
def ym_Mo_secret : MethodName := ⟨"SealedRecordsModel", "secret", "(IJ)Z"⟩
theorem yd_Mo_secret : ym_Mo_secret.cls ≠ "java/lang/invoke/MethodHandle" ∧ ym_Mo_secret.cls ≠ "java/lang/invoke/VarHandle" ∧ (parseMethodDescriptor ym_Mo_secret.desc).map (fun d => d.parameters.length) = some 2 := by decide +kernel
def rm_Mo_secret : Room := { frames := 1, cells := 0, slots := 0, locals := 25 }
def ym_Mo_alert : MethodName := ⟨"SealedRecordsModel", "alert", "(II)V"⟩
theorem yd_Mo_alert : ym_Mo_alert.cls ≠ "java/lang/invoke/MethodHandle" ∧ ym_Mo_alert.cls ≠ "java/lang/invoke/VarHandle" ∧ (parseMethodDescriptor ym_Mo_alert.desc).map (fun d => d.parameters.length) = some 2 := by decide +kernel
def rm_Mo_alert : Room := { frames := 0, cells := 0, slots := 0, locals := 0 }
def ym_Mo_key : MethodName := ⟨"SealedRecordsModel", "key", "(IZ)I"⟩
theorem yd_Mo_key : ym_Mo_key.cls ≠ "java/lang/invoke/MethodHandle" ∧ ym_Mo_key.cls ≠ "java/lang/invoke/VarHandle" ∧ (parseMethodDescriptor ym_Mo_key.desc).map (fun d => d.parameters.length) = some 2 := by decide +kernel
def rm_Mo_key : Room := { frames := 1, cells := 0, slots := 0, locals := 25 }
def ym_Mo_change : MethodName := ⟨"SealedRecordsModel", "change", "(I)V"⟩
theorem yd_Mo_change : ym_Mo_change.cls ≠ "java/lang/invoke/MethodHandle" ∧ ym_Mo_change.cls ≠ "java/lang/invoke/VarHandle" ∧ (parseMethodDescriptor ym_Mo_change.desc).map (fun d => d.parameters.length) = some 1 := by decide +kernel
def rm_Mo_change : Room := { frames := 1, cells := 0, slots := 0, locals := 25 }
def ym_Mo_advance : MethodName := ⟨"SealedRecordsModel", "advance", "(I)Z"⟩
theorem yd_Mo_advance : ym_Mo_advance.cls ≠ "java/lang/invoke/MethodHandle" ∧ ym_Mo_advance.cls ≠ "java/lang/invoke/VarHandle" ∧ (parseMethodDescriptor ym_Mo_advance.desc).map (fun d => d.parameters.length) = some 1 := by decide +kernel
def rm_Mo_advance : Room := { frames := 2, cells := 0, slots := 0, locals := 46 }
def ym_Mo_write : MethodName := ⟨"SealedRecordsModel", "write", "(II)Z"⟩
theorem yd_Mo_write : ym_Mo_write.cls ≠ "java/lang/invoke/MethodHandle" ∧ ym_Mo_write.cls ≠ "java/lang/invoke/VarHandle" ∧ (parseMethodDescriptor ym_Mo_write.desc).map (fun d => d.parameters.length) = some 2 := by decide +kernel
def rm_Mo_write : Room := { frames := 1, cells := 0, slots := 0, locals := 20 }
def ym_Mo_stream : MethodName := ⟨"SealedRecordsModel", "stream", "(II)I"⟩
theorem yd_Mo_stream : ym_Mo_stream.cls ≠ "java/lang/invoke/MethodHandle" ∧ ym_Mo_stream.cls ≠ "java/lang/invoke/VarHandle" ∧ (parseMethodDescriptor ym_Mo_stream.desc).map (fun d => d.parameters.length) = some 2 := by decide +kernel
def rm_Mo_stream : Room := { frames := 1, cells := 0, slots := 0, locals := 25 }
def ym_Mo_tag : MethodName := ⟨"SealedRecordsModel", "tag", "(III)J"⟩
theorem yd_Mo_tag : ym_Mo_tag.cls ≠ "java/lang/invoke/MethodHandle" ∧ ym_Mo_tag.cls ≠ "java/lang/invoke/VarHandle" ∧ (parseMethodDescriptor ym_Mo_tag.desc).map (fun d => d.parameters.length) = some 3 := by decide +kernel
def rm_Mo_tag : Room := { frames := 1, cells := 0, slots := 0, locals := 25 }
def ym_Mo_close : MethodName := ⟨"SealedRecordsModel", "close", "(IIII)V"⟩
theorem yd_Mo_close : ym_Mo_close.cls ≠ "java/lang/invoke/MethodHandle" ∧ ym_Mo_close.cls ≠ "java/lang/invoke/VarHandle" ∧ (parseMethodDescriptor ym_Mo_close.desc).map (fun d => d.parameters.length) = some 4 := by decide +kernel
def rm_Mo_close : Room := { frames := 2, cells := 0, slots := 0, locals := 51 }
def ym_Mo_seal : MethodName := ⟨"SealedRecordsModel", "seal", "(III)I"⟩
theorem yd_Mo_seal : ym_Mo_seal.cls ≠ "java/lang/invoke/MethodHandle" ∧ ym_Mo_seal.cls ≠ "java/lang/invoke/VarHandle" ∧ (parseMethodDescriptor ym_Mo_seal.desc).map (fun d => d.parameters.length) = some 3 := by decide +kernel
def rm_Mo_seal : Room := { frames := 3, cells := 0, slots := 0, locals := 80 }
def ym_Mo_move : MethodName := ⟨"SealedRecordsModel", "move", "(II)V"⟩
theorem yd_Mo_move : ym_Mo_move.cls ≠ "java/lang/invoke/MethodHandle" ∧ ym_Mo_move.cls ≠ "java/lang/invoke/VarHandle" ∧ (parseMethodDescriptor ym_Mo_move.desc).map (fun d => d.parameters.length) = some 2 := by decide +kernel
def rm_Mo_move : Room := { frames := 0, cells := 0, slots := 0, locals := 0 }
def ym_Mo_isRecord : MethodName := ⟨"SealedRecordsModel", "isRecord", "(II)Z"⟩
theorem yd_Mo_isRecord : ym_Mo_isRecord.cls ≠ "java/lang/invoke/MethodHandle" ∧ ym_Mo_isRecord.cls ≠ "java/lang/invoke/VarHandle" ∧ (parseMethodDescriptor ym_Mo_isRecord.desc).map (fun d => d.parameters.length) = some 2 := by decide +kernel
def rm_Mo_isRecord : Room := { frames := 1, cells := 0, slots := 0, locals := 20 }
def ym_Mo_lose : MethodName := ⟨"SealedRecordsModel", "lose", "(II)Z"⟩
theorem yd_Mo_lose : ym_Mo_lose.cls ≠ "java/lang/invoke/MethodHandle" ∧ ym_Mo_lose.cls ≠ "java/lang/invoke/VarHandle" ∧ (parseMethodDescriptor ym_Mo_lose.desc).map (fun d => d.parameters.length) = some 2 := by decide +kernel
def rm_Mo_lose : Room := { frames := 2, cells := 0, slots := 0, locals := 42 }
def ym_Mo_alter : MethodName := ⟨"SealedRecordsModel", "alter", "(IIII)Z"⟩
theorem yd_Mo_alter : ym_Mo_alter.cls ≠ "java/lang/invoke/MethodHandle" ∧ ym_Mo_alter.cls ≠ "java/lang/invoke/VarHandle" ∧ (parseMethodDescriptor ym_Mo_alter.desc).map (fun d => d.parameters.length) = some 4 := by decide +kernel
def rm_Mo_alter : Room := { frames := 2, cells := 0, slots := 0, locals := 42 }
def ym_Mo_cut : MethodName := ⟨"SealedRecordsModel", "cut", "(II)Z"⟩
theorem yd_Mo_cut : ym_Mo_cut.cls ≠ "java/lang/invoke/MethodHandle" ∧ ym_Mo_cut.cls ≠ "java/lang/invoke/VarHandle" ∧ (parseMethodDescriptor ym_Mo_cut.desc).map (fun d => d.parameters.length) = some 2 := by decide +kernel
def rm_Mo_cut : Room := { frames := 2, cells := 0, slots := 0, locals := 42 }
def ym_Mo_copy : MethodName := ⟨"SealedRecordsModel", "copy", "(II)Z"⟩
theorem yd_Mo_copy : ym_Mo_copy.cls ≠ "java/lang/invoke/MethodHandle" ∧ ym_Mo_copy.cls ≠ "java/lang/invoke/VarHandle" ∧ (parseMethodDescriptor ym_Mo_copy.desc).map (fun d => d.parameters.length) = some 2 := by decide +kernel
def rm_Mo_copy : Room := { frames := 2, cells := 0, slots := 0, locals := 42 }
def ym_Mo_swap : MethodName := ⟨"SealedRecordsModel", "swap", "(II)Z"⟩
theorem yd_Mo_swap : ym_Mo_swap.cls ≠ "java/lang/invoke/MethodHandle" ∧ ym_Mo_swap.cls ≠ "java/lang/invoke/VarHandle" ∧ (parseMethodDescriptor ym_Mo_swap.desc).map (fun d => d.parameters.length) = some 2 := by decide +kernel
def rm_Mo_swap : Room := { frames := 2, cells := 0, slots := 0, locals := 42 }
def ym_Mo_inject : MethodName := ⟨"SealedRecordsModel", "inject", "(IIII)Z"⟩
theorem yd_Mo_inject : ym_Mo_inject.cls ≠ "java/lang/invoke/MethodHandle" ∧ ym_Mo_inject.cls ≠ "java/lang/invoke/VarHandle" ∧ (parseMethodDescriptor ym_Mo_inject.desc).map (fun d => d.parameters.length) = some 4 := by decide +kernel
def rm_Mo_inject : Room := { frames := 1, cells := 0, slots := 0, locals := 20 }
def ym_Mo_waiting : MethodName := ⟨"SealedRecordsModel", "waiting", "(I)I"⟩
theorem yd_Mo_waiting : ym_Mo_waiting.cls ≠ "java/lang/invoke/MethodHandle" ∧ ym_Mo_waiting.cls ≠ "java/lang/invoke/VarHandle" ∧ (parseMethodDescriptor ym_Mo_waiting.desc).map (fun d => d.parameters.length) = some 1 := by decide +kernel
def rm_Mo_waiting : Room := { frames := 1, cells := 0, slots := 0, locals := 20 }
def ym_Mo_wire : MethodName := ⟨"SealedRecordsModel", "wire", "(III)I"⟩
theorem yd_Mo_wire : ym_Mo_wire.cls ≠ "java/lang/invoke/MethodHandle" ∧ ym_Mo_wire.cls ≠ "java/lang/invoke/VarHandle" ∧ (parseMethodDescriptor ym_Mo_wire.desc).map (fun d => d.parameters.length) = some 3 := by decide +kernel
def rm_Mo_wire : Room := { frames := 2, cells := 0, slots := 0, locals := 42 }
def ym_Mo_lastEight : MethodName := ⟨"SealedRecordsModel", "lastEight", "(II)J"⟩
theorem yd_Mo_lastEight : ym_Mo_lastEight.cls ≠ "java/lang/invoke/MethodHandle" ∧ ym_Mo_lastEight.cls ≠ "java/lang/invoke/VarHandle" ∧ (parseMethodDescriptor ym_Mo_lastEight.desc).map (fun d => d.parameters.length) = some 2 := by decide +kernel
def rm_Mo_lastEight : Room := { frames := 0, cells := 0, slots := 0, locals := 0 }
def ym_Mo_unseal : MethodName := ⟨"SealedRecordsModel", "unseal", "(II)I"⟩
theorem yd_Mo_unseal : ym_Mo_unseal.cls ≠ "java/lang/invoke/MethodHandle" ∧ ym_Mo_unseal.cls ≠ "java/lang/invoke/VarHandle" ∧ (parseMethodDescriptor ym_Mo_unseal.desc).map (fun d => d.parameters.length) = some 2 := by decide +kernel
def rm_Mo_unseal : Room := { frames := 2, cells := 0, slots := 0, locals := 51 }
def ym_Mo_read : MethodName := ⟨"SealedRecordsModel", "read", "(I)V"⟩
theorem yd_Mo_read : ym_Mo_read.cls ≠ "java/lang/invoke/MethodHandle" ∧ ym_Mo_read.cls ≠ "java/lang/invoke/VarHandle" ∧ (parseMethodDescriptor ym_Mo_read.desc).map (fun d => d.parameters.length) = some 1 := by decide +kernel
def rm_Mo_read : Room := { frames := 0, cells := 0, slots := 0, locals := 0 }
def ym_Mo_keep : MethodName := ⟨"SealedRecordsModel", "keep", "(I)V"⟩
theorem yd_Mo_keep : ym_Mo_keep.cls ≠ "java/lang/invoke/MethodHandle" ∧ ym_Mo_keep.cls ≠ "java/lang/invoke/VarHandle" ∧ (parseMethodDescriptor ym_Mo_keep.desc).map (fun d => d.parameters.length) = some 1 := by decide +kernel
def rm_Mo_keep : Room := { frames := 0, cells := 0, slots := 0, locals := 0 }
def ym_Mo_judge : MethodName := ⟨"SealedRecordsModel", "judge", "(I)I"⟩
theorem yd_Mo_judge : ym_Mo_judge.cls ≠ "java/lang/invoke/MethodHandle" ∧ ym_Mo_judge.cls ≠ "java/lang/invoke/VarHandle" ∧ (parseMethodDescriptor ym_Mo_judge.desc).map (fun d => d.parameters.length) = some 1 := by decide +kernel
def rm_Mo_judge : Room := { frames := 1, cells := 0, slots := 0, locals := 27 }
def ym_Mo_store : MethodName := ⟨"SealedRecordsModel", "store", "(I)V"⟩
theorem yd_Mo_store : ym_Mo_store.cls ≠ "java/lang/invoke/MethodHandle" ∧ ym_Mo_store.cls ≠ "java/lang/invoke/VarHandle" ∧ (parseMethodDescriptor ym_Mo_store.desc).map (fun d => d.parameters.length) = some 1 := by decide +kernel
def rm_Mo_store : Room := { frames := 2, cells := 0, slots := 0, locals := 46 }
def ym_Mo_deliver : MethodName := ⟨"SealedRecordsModel", "deliver", "(I)I"⟩
theorem yd_Mo_deliver : ym_Mo_deliver.cls ≠ "java/lang/invoke/MethodHandle" ∧ ym_Mo_deliver.cls ≠ "java/lang/invoke/VarHandle" ∧ (parseMethodDescriptor ym_Mo_deliver.desc).map (fun d => d.parameters.length) = some 1 := by decide +kernel
def rm_Mo_deliver : Room := { frames := 3, cells := 0, slots := 0, locals := 76 }
def ym_Mo_items : MethodName := ⟨"SealedRecordsModel", "items", "(I)I"⟩
theorem yd_Mo_items : ym_Mo_items.cls ≠ "java/lang/invoke/MethodHandle" ∧ ym_Mo_items.cls ≠ "java/lang/invoke/VarHandle" ∧ (parseMethodDescriptor ym_Mo_items.desc).map (fun d => d.parameters.length) = some 1 := by decide +kernel
def rm_Mo_items : Room := { frames := 1, cells := 0, slots := 0, locals := 20 }
def ym_Mo_item : MethodName := ⟨"SealedRecordsModel", "item", "(II)I"⟩
theorem yd_Mo_item : ym_Mo_item.cls ≠ "java/lang/invoke/MethodHandle" ∧ ym_Mo_item.cls ≠ "java/lang/invoke/VarHandle" ∧ (parseMethodDescriptor ym_Mo_item.desc).map (fun d => d.parameters.length) = some 2 := by decide +kernel
def rm_Mo_item : Room := { frames := 1, cells := 0, slots := 0, locals := 20 }
def ym_Mo_take : MethodName := ⟨"SealedRecordsModel", "take", "(I)Z"⟩
theorem yd_Mo_take : ym_Mo_take.cls ≠ "java/lang/invoke/MethodHandle" ∧ ym_Mo_take.cls ≠ "java/lang/invoke/VarHandle" ∧ (parseMethodDescriptor ym_Mo_take.desc).map (fun d => d.parameters.length) = some 1 := by decide +kernel
def rm_Mo_take : Room := { frames := 1, cells := 0, slots := 0, locals := 20 }
def ym_Mo_look : MethodName := ⟨"SealedRecordsModel", "look", "(II)I"⟩
theorem yd_Mo_look : ym_Mo_look.cls ≠ "java/lang/invoke/MethodHandle" ∧ ym_Mo_look.cls ≠ "java/lang/invoke/VarHandle" ∧ (parseMethodDescriptor ym_Mo_look.desc).map (fun d => d.parameters.length) = some 2 := by decide +kernel
def rm_Mo_look : Room := { frames := 1, cells := 0, slots := 0, locals := 20 }
def ym_Lw_cell : MethodName := ⟨"SealedRecordsLaw", "cell", "([II)I"⟩
theorem yd_Lw_cell : ym_Lw_cell.cls ≠ "java/lang/invoke/MethodHandle" ∧ ym_Lw_cell.cls ≠ "java/lang/invoke/VarHandle" ∧ (parseMethodDescriptor ym_Lw_cell.desc).map (fun d => d.parameters.length) = some 2 := by decide +kernel
def rm_Lw_cell : Room := { frames := 0, cells := 0, slots := 0, locals := 0 }
theorem ww_0 : Cond.instantiable "SealedRecords" 2 ∈ q_W0 := List.mem_filter.mpr ⟨List.mem_append_right _ (List.mem_of_getElem? (i := 9) (by decide +kernel)), rfl⟩
theorem ww_1 : Cond.initialized "SealedRecords" ∈ q_W0 := List.mem_filter.mpr ⟨List.mem_append_right _ (List.mem_of_getElem? (i := 1) (by decide +kernel)), rfl⟩
theorem ww_2 : Cond.instantiable "SealedRecords$Packet" 3 ∈ q_W0 := List.mem_filter.mpr ⟨List.mem_append_right _ (List.mem_of_getElem? (i := 47) (by decide +kernel)), rfl⟩
theorem ww_3 : Cond.initialized "SealedRecords$Packet" ∈ q_W0 := List.mem_filter.mpr ⟨List.mem_append_right _ (List.mem_of_getElem? (i := 4) (by decide +kernel)), rfl⟩
theorem ww_4 : Cond.instantiable "SealedRecords$Row" 2 ∈ q_W0 := List.mem_filter.mpr ⟨List.mem_append_right _ (List.mem_of_getElem? (i := 72) (by decide +kernel)), rfl⟩
theorem ww_5 : Cond.initialized "SealedRecords$Row" ∈ q_W0 := List.mem_filter.mpr ⟨List.mem_append_right _ (List.mem_of_getElem? (i := 5) (by decide +kernel)), rfl⟩
theorem ww_6 : Cond.instantiable "SealedRecords$Side" 4 ∈ q_W0 := List.mem_filter.mpr ⟨List.mem_append_right _ (List.mem_of_getElem? (i := 24) (by decide +kernel)), rfl⟩
theorem ww_7 : Cond.initialized "SealedRecords$Side" ∈ q_W0 := List.mem_filter.mpr ⟨List.mem_append_right _ (List.mem_of_getElem? (i := 3) (by decide +kernel)), rfl⟩
theorem ww_8 : Cond.instantiable "SealedRecords$Messages" 3 ∈ q_W0 := List.mem_filter.mpr ⟨List.mem_append_right _ (List.mem_of_getElem? (i := 90) (by decide +kernel)), rfl⟩
theorem ww_9 : Cond.initialized "SealedRecords$Messages" ∈ q_W0 := List.mem_filter.mpr ⟨List.mem_append_right _ (List.mem_of_getElem? (i := 6) (by decide +kernel)), rfl⟩
theorem ww_10 : Cond.instantiable "SealedRecords$End" 13 ∈ q_W0 := List.mem_filter.mpr ⟨List.mem_append_right _ (List.mem_of_getElem? (i := 18) (by decide +kernel)), rfl⟩
theorem ww_11 : Cond.initialized "SealedRecords$End" ∈ q_W0 := List.mem_filter.mpr ⟨List.mem_append_right _ (List.mem_of_getElem? (i := 2) (by decide +kernel)), rfl⟩
theorem ww_12 : Cond.instantiable "SealedRecordsModel" 28 ∈ q_W0 := List.mem_filter.mpr ⟨List.mem_append_right _ (List.mem_of_getElem? (i := 416) (by decide +kernel)), rfl⟩
theorem ww_13 : Cond.initialized "SealedRecordsModel" ∈ q_W0 := List.mem_filter.mpr ⟨List.mem_append_right _ (List.mem_of_getElem? (i := 7) (by decide +kernel)), rfl⟩
theorem ww_14 : Cond.methodLink "SealedRecords$Side" 3 Lib.objectInit ∈ q_W0 := List.mem_filter.mpr ⟨List.mem_append_right _ (List.mem_of_getElem? (i := 28) (by decide +kernel)), rfl⟩
theorem ww_15 : Cond.instanceMethod Lib.objectInit ∈ q_W0 := List.mem_filter.mpr ⟨List.mem_append_right _ (List.mem_of_getElem? (i := 14) (by decide +kernel)), rfl⟩
set_option maxRecDepth 100000 in
theorem ww_16 : Cond.code Lib.objectInit ⟨#[0xb1]⟩ 1 none ∈ q_W0 := List.mem_filter.mpr ⟨List.mem_append_right _ (List.mem_of_getElem? (i := 15) rfl), rfl⟩
theorem ww_17 : Cond.methodLink "SealedRecords$Packet" 1 Lib.objectInit ∈ q_W0 := List.mem_filter.mpr ⟨List.mem_append_right _ (List.mem_of_getElem? (i := 51) (by decide +kernel)), rfl⟩
theorem ww_18 : Cond.arrayClass .int ∈ q_W0 := List.mem_filter.mpr ⟨List.mem_append_right _ (List.mem_of_getElem? (i := 70) (by decide +kernel)), rfl⟩
theorem ww_19 : Cond.fieldLink "SealedRecords$Packet" 7 "SealedRecords$Packet" "bytes" "[I" ∈ q_W0 := List.mem_filter.mpr ⟨List.mem_append_right _ (List.mem_of_getElem? (i := 52) (by decide +kernel)), rfl⟩
theorem ww_20 : Cond.fieldLink "SealedRecords$Row" 9 "SealedRecords$Row" "slots" "[LSealedRecords$Packet;" ∈ q_W0 := List.mem_filter.mpr ⟨List.mem_append_right _ (List.mem_of_getElem? (i := 80) (by decide +kernel)), rfl⟩
theorem ww_21 : Cond.classLink "SealedRecords$Row" 7 "SealedRecords$Packet" ∈ q_W0 := List.mem_filter.mpr ⟨List.mem_append_right _ (List.mem_of_getElem? (i := 77) (by decide +kernel)), rfl⟩
set_option maxRecDepth 100000 in
theorem ww_22 : Cond.code ym_Pk_init prog_4_method_1_code 2 none ∈ q_W0 := List.mem_filter.mpr ⟨List.mem_append_right _ (List.mem_of_getElem? (i := 50) rfl), rfl⟩
theorem ww_23 : Cond.methodLink "SealedRecords$Row" 15 ym_Pk_init ∈ q_W0 := List.mem_filter.mpr ⟨List.mem_append_right _ (List.mem_of_getElem? (i := 79) (by decide +kernel)), rfl⟩
theorem ww_24 : Cond.instanceMethod ym_Pk_init ∈ q_W0 := List.mem_filter.mpr ⟨List.mem_append_right _ (List.mem_of_getElem? (i := 49) (by decide +kernel)), rfl⟩
theorem ww_25 : Cond.methodLink "SealedRecords$Row" 1 Lib.objectInit ∈ q_W0 := List.mem_filter.mpr ⟨List.mem_append_right _ (List.mem_of_getElem? (i := 76) (by decide +kernel)), rfl⟩
theorem ww_26 : Cond.methodLink "SealedRecords$Messages" 1 Lib.objectInit ∈ q_W0 := List.mem_filter.mpr ⟨List.mem_append_right _ (List.mem_of_getElem? (i := 94) (by decide +kernel)), rfl⟩
theorem ww_27 : Cond.methodLink "SealedRecords$End" 3 Lib.objectInit ∈ q_W0 := List.mem_filter.mpr ⟨List.mem_append_right _ (List.mem_of_getElem? (i := 22) (by decide +kernel)), rfl⟩
theorem ww_28 : Cond.classLink "SealedRecords$End" 9 "SealedRecords$Side" ∈ q_W0 := List.mem_filter.mpr ⟨List.mem_append_right _ (List.mem_of_getElem? (i := 23) (by decide +kernel)), rfl⟩
set_option maxRecDepth 100000 in
theorem ww_29 : Cond.code ym_Sd_init prog_6_method_1_code 1 none ∈ q_W0 := List.mem_filter.mpr ⟨List.mem_append_right _ (List.mem_of_getElem? (i := 27) rfl), rfl⟩
theorem ww_30 : Cond.methodLinkNest "SealedRecords$End" 11 ym_Sd_init "SealedRecords" ∈ q_nw := by decide +kernel
theorem ww_31 : Cond.instanceMethod ym_Sd_init ∈ q_W0 := List.mem_filter.mpr ⟨List.mem_append_right _ (List.mem_of_getElem? (i := 26) (by decide +kernel)), rfl⟩
theorem ww_32 : Cond.fieldLink "SealedRecords$End" 12 "SealedRecords$End" "sending" "LSealedRecords$Side;" ∈ q_W0 := List.mem_filter.mpr ⟨List.mem_append_right _ (List.mem_of_getElem? (i := 108) (by decide +kernel)), rfl⟩
theorem ww_33 : Cond.fieldLink "SealedRecords$End" 18 "SealedRecords$End" "receiving" "LSealedRecords$Side;" ∈ q_W0 := List.mem_filter.mpr ⟨List.mem_append_right _ (List.mem_of_getElem? (i := 110) (by decide +kernel)), rfl⟩
theorem ww_34 : Cond.classLink "SealedRecords$End" 21 "SealedRecords$Packet" ∈ q_W0 := List.mem_filter.mpr ⟨List.mem_append_right _ (List.mem_of_getElem? (i := 46) (by decide +kernel)), rfl⟩
theorem ww_35 : Cond.methodLink "SealedRecords$End" 23 ym_Pk_init ∈ q_W0 := List.mem_filter.mpr ⟨List.mem_append_right _ (List.mem_of_getElem? (i := 48) (by decide +kernel)), rfl⟩
theorem ww_36 : Cond.fieldLink "SealedRecords$End" 26 "SealedRecords$End" "draft" "LSealedRecords$Packet;" ∈ q_W0 := List.mem_filter.mpr ⟨List.mem_append_right _ (List.mem_of_getElem? (i := 112) (by decide +kernel)), rfl⟩
theorem ww_37 : Cond.classLink "SealedRecords$End" 30 "SealedRecords$Row" ∈ q_W0 := List.mem_filter.mpr ⟨List.mem_append_right _ (List.mem_of_getElem? (i := 71) (by decide +kernel)), rfl⟩
set_option maxRecDepth 100000 in
theorem ww_38 : Cond.code ym_Rw_init prog_5_method_1_code 4 none ∈ q_W0 := List.mem_filter.mpr ⟨List.mem_append_right _ (List.mem_of_getElem? (i := 75) rfl), rfl⟩
theorem ww_39 : Cond.methodLink "SealedRecords$End" 32 ym_Rw_init ∈ q_W0 := List.mem_filter.mpr ⟨List.mem_append_right _ (List.mem_of_getElem? (i := 73) (by decide +kernel)), rfl⟩
theorem ww_40 : Cond.instanceMethod ym_Rw_init ∈ q_W0 := List.mem_filter.mpr ⟨List.mem_append_right _ (List.mem_of_getElem? (i := 74) (by decide +kernel)), rfl⟩
theorem ww_41 : Cond.fieldLink "SealedRecords$End" 35 "SealedRecords$End" "arriving" "LSealedRecords$Row;" ∈ q_W0 := List.mem_filter.mpr ⟨List.mem_append_right _ (List.mem_of_getElem? (i := 114) (by decide +kernel)), rfl⟩
theorem ww_42 : Cond.fieldLink "SealedRecords$End" 39 "SealedRecords$End" "delivered" "LSealedRecords$Row;" ∈ q_W0 := List.mem_filter.mpr ⟨List.mem_append_right _ (List.mem_of_getElem? (i := 116) (by decide +kernel)), rfl⟩
theorem ww_43 : Cond.classLink "SealedRecords$End" 42 "SealedRecords$Messages" ∈ q_W0 := List.mem_filter.mpr ⟨List.mem_append_right _ (List.mem_of_getElem? (i := 89) (by decide +kernel)), rfl⟩
set_option maxRecDepth 100000 in
theorem ww_44 : Cond.code ym_Ms_init prog_3_method_1_code 1 none ∈ q_W0 := List.mem_filter.mpr ⟨List.mem_append_right _ (List.mem_of_getElem? (i := 93) rfl), rfl⟩
theorem ww_45 : Cond.methodLinkNest "SealedRecords$End" 44 ym_Ms_init "SealedRecords" ∈ q_nw := by decide +kernel
theorem ww_46 : Cond.instanceMethod ym_Ms_init ∈ q_W0 := List.mem_filter.mpr ⟨List.mem_append_right _ (List.mem_of_getElem? (i := 92) (by decide +kernel)), rfl⟩
theorem ww_47 : Cond.fieldLink "SealedRecords$End" 45 "SealedRecords$End" "messages" "LSealedRecords$Messages;" ∈ q_W0 := List.mem_filter.mpr ⟨List.mem_append_right _ (List.mem_of_getElem? (i := 118) (by decide +kernel)), rfl⟩
theorem ww_48 : Cond.fieldLink "SealedRecords$End" 49 "SealedRecords$End" "ahead" "LSealedRecords$Messages;" ∈ q_W0 := List.mem_filter.mpr ⟨List.mem_append_right _ (List.mem_of_getElem? (i := 120) (by decide +kernel)), rfl⟩
theorem ww_49 : Cond.fieldLink "SealedRecords$End" 52 "SealedRecords$End" "opened" "LSealedRecords$Packet;" ∈ q_W0 := List.mem_filter.mpr ⟨List.mem_append_right _ (List.mem_of_getElem? (i := 121) (by decide +kernel)), rfl⟩
theorem ww_50 : Cond.fieldLink "SealedRecords$End" 55 "SealedRecords$End" "reason" "I" ∈ q_W0 := List.mem_filter.mpr ⟨List.mem_append_right _ (List.mem_of_getElem? (i := 125) (by decide +kernel)), rfl⟩
theorem ww_51 : Cond.fieldLink "SealedRecords$End" 59 "SealedRecords$End" "number" "I" ∈ q_W0 := List.mem_filter.mpr ⟨List.mem_append_right _ (List.mem_of_getElem? (i := 107) (by decide +kernel)), rfl⟩
theorem ww_52 : Cond.fieldLink "SealedRecords" 9 "SealedRecords" "limit" "I" ∈ q_W0 := List.mem_filter.mpr ⟨List.mem_append_right _ (List.mem_of_getElem? (i := 156) (by decide +kernel)), rfl⟩
theorem ww_53 : Cond.classLink "SealedRecords" 13 "SealedRecords$End" ∈ q_W0 := List.mem_filter.mpr ⟨List.mem_append_right _ (List.mem_of_getElem? (i := 16) (by decide +kernel)), rfl⟩
set_option maxRecDepth 100000 in
theorem ww_54 : Cond.code ym_En_init prog_2_method_1_code 2 none ∈ q_W0 := List.mem_filter.mpr ⟨List.mem_append_right _ (List.mem_of_getElem? (i := 21) rfl), rfl⟩
theorem ww_55 : Cond.methodLink "SealedRecords" 15 ym_En_init ∈ q_W0 := List.mem_filter.mpr ⟨List.mem_append_right _ (List.mem_of_getElem? (i := 19) (by decide +kernel)), rfl⟩
theorem ww_56 : Cond.instanceMethod ym_En_init ∈ q_W0 := List.mem_filter.mpr ⟨List.mem_append_right _ (List.mem_of_getElem? (i := 20) (by decide +kernel)), rfl⟩
theorem ww_57 : Cond.fieldLink "SealedRecords" 18 "SealedRecords" "ends" "[LSealedRecords$End;" ∈ q_W0 := List.mem_filter.mpr ⟨List.mem_append_right _ (List.mem_of_getElem? (i := 157) (by decide +kernel)), rfl⟩
theorem ww_58 : Cond.methodLink "SealedRecords" 3 Lib.objectInit ∈ q_W0 := List.mem_filter.mpr ⟨List.mem_append_right _ (List.mem_of_getElem? (i := 13) (by decide +kernel)), rfl⟩
theorem ww_59 : Cond.constantLong "SealedRecords" 169 6364136223846793005 ∈ q_W0 := List.mem_filter.mpr ⟨List.mem_append_right _ (List.mem_of_getElem? (i := 174) (by decide +kernel)), rfl⟩
theorem ww_60 : Cond.constantLong "SealedRecords" 171 1442695040888963407 ∈ q_W0 := List.mem_filter.mpr ⟨List.mem_append_right _ (List.mem_of_getElem? (i := 175) (by decide +kernel)), rfl⟩
set_option maxRecDepth 100000 in
theorem ww_61 : Cond.code ym_SR_isEnd prog_1_method_21_code 1 (some .boolean) ∈ q_W0 := List.mem_filter.mpr ⟨List.mem_append_right _ (List.mem_of_getElem? (i := 169) rfl), rfl⟩
theorem ww_62 : Cond.methodLink "SealedRecords" 22 ym_SR_isEnd ∈ q_W0 := List.mem_filter.mpr ⟨List.mem_append_right _ (List.mem_of_getElem? (i := 167) (by decide +kernel)), rfl⟩
theorem ww_63 : Cond.static ym_SR_isEnd ∈ q_W0 := List.mem_filter.mpr ⟨List.mem_append_right _ (List.mem_of_getElem? (i := 168) (by decide +kernel)), rfl⟩
theorem ww_64 : Cond.fieldLink "SealedRecords" 26 "SealedRecords$End" "chainStage" "I" ∈ q_W0 := List.mem_filter.mpr ⟨List.mem_append_right _ (List.mem_of_getElem? (i := 124) (by decide +kernel)), rfl⟩
theorem ww_65 : Cond.fieldLink "SealedRecords" 29 "SealedRecords$End" "chain" "J" ∈ q_W0 := List.mem_filter.mpr ⟨List.mem_append_right _ (List.mem_of_getElem? (i := 123) (by decide +kernel)), rfl⟩
theorem ww_66 : Cond.constantLong "SealedRecords" 33 3 ∈ q_W0 := List.mem_filter.mpr ⟨List.mem_append_right _ (List.mem_of_getElem? (i := 170) (by decide +kernel)), rfl⟩
set_option maxRecDepth 100000 in
theorem ww_67 : Cond.code ym_SR_mix prog_1_method_24_code 6 (some .long) ∈ q_W0 := List.mem_filter.mpr ⟨List.mem_append_right _ (List.mem_of_getElem? (i := 173) rfl), rfl⟩
theorem ww_68 : Cond.methodLink "SealedRecords" 35 ym_SR_mix ∈ q_W0 := List.mem_filter.mpr ⟨List.mem_append_right _ (List.mem_of_getElem? (i := 171) (by decide +kernel)), rfl⟩
theorem ww_69 : Cond.static ym_SR_mix ∈ q_W0 := List.mem_filter.mpr ⟨List.mem_append_right _ (List.mem_of_getElem? (i := 172) (by decide +kernel)), rfl⟩
theorem ww_70 : Cond.fieldLink "SealedRecords$Messages" 7 "SealedRecords$Messages" "come" "I" ∈ q_W0 := List.mem_filter.mpr ⟨List.mem_append_right _ (List.mem_of_getElem? (i := 99) (by decide +kernel)), rfl⟩
theorem ww_71 : Cond.fieldLink "SealedRecords$End" 95 "SealedRecords$Side" "closed" "Z" ∈ q_W0 := List.mem_filter.mpr ⟨List.mem_append_right _ (List.mem_of_getElem? (i := 36) (by decide +kernel)), rfl⟩
set_option maxRecDepth 100000 in
theorem ww_72 : Cond.code ym_En_closeReceiving prog_2_method_9_code 2 none ∈ q_W0 := List.mem_filter.mpr ⟨List.mem_append_right _ (List.mem_of_getElem? (i := 191) rfl), rfl⟩
theorem ww_73 : Cond.methodLink "SealedRecords$End" 133 ym_En_closeReceiving ∈ q_W0 := List.mem_filter.mpr ⟨List.mem_append_right _ (List.mem_of_getElem? (i := 188) (by decide +kernel)), rfl⟩
theorem ww_74 : Cond.instanceMethod ym_En_closeReceiving ∈ q_W0 := List.mem_filter.mpr ⟨List.mem_append_right _ (List.mem_of_getElem? (i := 189) (by decide +kernel)), rfl⟩
set_option maxRecDepth 100000 in
theorem ww_75 : Cond.selects "SealedRecords$End" ym_En_closeReceiving ym_En_closeReceiving ∈ q_W0 := List.mem_filter.mpr ⟨List.mem_append_right _ (List.mem_of_getElem? (i := 190) (by decide +kernel)), rfl⟩
theorem ww_76 : Cond.fieldLink "SealedRecords$End" 62 "SealedRecords$End" "chain" "J" ∈ q_W0 := List.mem_filter.mpr ⟨List.mem_append_right _ (List.mem_of_getElem? (i := 122) (by decide +kernel)), rfl⟩
theorem ww_77 : Cond.methodLinkNest "SealedRecords$End" 66 ym_SR_mix "SealedRecords" ∈ q_nw := by decide +kernel
theorem ww_78 : Cond.fieldLink "SealedRecords$Side" 9 "SealedRecords$Side" "secret" "J" ∈ q_W0 := List.mem_filter.mpr ⟨List.mem_append_right _ (List.mem_of_getElem? (i := 31) (by decide +kernel)), rfl⟩
theorem ww_79 : Cond.fieldLink "SealedRecords$Side" 15 "SealedRecords$Side" "count" "I" ∈ q_W0 := List.mem_filter.mpr ⟨List.mem_append_right _ (List.mem_of_getElem? (i := 32) (by decide +kernel)), rfl⟩
set_option maxRecDepth 100000 in
theorem ww_80 : Cond.code ym_Sd_useSecret prog_6_method_2_code 3 none ∈ q_W0 := List.mem_filter.mpr ⟨List.mem_append_right _ (List.mem_of_getElem? (i := 204) rfl), rfl⟩
theorem ww_81 : Cond.methodLink "SealedRecords" 76 ym_Sd_useSecret ∈ q_W0 := List.mem_filter.mpr ⟨List.mem_append_right _ (List.mem_of_getElem? (i := 201) (by decide +kernel)), rfl⟩
theorem ww_82 : Cond.instanceMethod ym_Sd_useSecret ∈ q_W0 := List.mem_filter.mpr ⟨List.mem_append_right _ (List.mem_of_getElem? (i := 202) (by decide +kernel)), rfl⟩
set_option maxRecDepth 100000 in
theorem ww_83 : Cond.selects "SealedRecords$Side" ym_Sd_useSecret ym_Sd_useSecret ∈ q_W0 := List.mem_filter.mpr ⟨List.mem_append_right _ (List.mem_of_getElem? (i := 203) (by decide +kernel)), rfl⟩
theorem ww_84 : Cond.fieldLink "SealedRecords" 52 "SealedRecords$Side" "stage" "I" ∈ q_W0 := List.mem_filter.mpr ⟨List.mem_append_right _ (List.mem_of_getElem? (i := 29) (by decide +kernel)), rfl⟩
set_option maxRecDepth 100000 in
theorem ww_85 : Cond.code ym_En_receivingSecret prog_2_method_3_code 1 (some .long) ∈ q_W0 := List.mem_filter.mpr ⟨List.mem_append_right _ (List.mem_of_getElem? (i := 200) rfl), rfl⟩
theorem ww_86 : Cond.methodLink "SealedRecords" 73 ym_En_receivingSecret ∈ q_W0 := List.mem_filter.mpr ⟨List.mem_append_right _ (List.mem_of_getElem? (i := 197) (by decide +kernel)), rfl⟩
theorem ww_87 : Cond.instanceMethod ym_En_receivingSecret ∈ q_W0 := List.mem_filter.mpr ⟨List.mem_append_right _ (List.mem_of_getElem? (i := 198) (by decide +kernel)), rfl⟩
set_option maxRecDepth 100000 in
theorem ww_88 : Cond.selects "SealedRecords$End" ym_En_receivingSecret ym_En_receivingSecret ∈ q_W0 := List.mem_filter.mpr ⟨List.mem_append_right _ (List.mem_of_getElem? (i := 199) (by decide +kernel)), rfl⟩
set_option maxRecDepth 100000 in
theorem ww_89 : Cond.code ym_En_sendingSecret prog_2_method_2_code 1 (some .long) ∈ q_W0 := List.mem_filter.mpr ⟨List.mem_append_right _ (List.mem_of_getElem? (i := 195) rfl), rfl⟩
theorem ww_90 : Cond.methodLink "SealedRecords" 69 ym_En_sendingSecret ∈ q_W0 := List.mem_filter.mpr ⟨List.mem_append_right _ (List.mem_of_getElem? (i := 192) (by decide +kernel)), rfl⟩
theorem ww_91 : Cond.instanceMethod ym_En_sendingSecret ∈ q_W0 := List.mem_filter.mpr ⟨List.mem_append_right _ (List.mem_of_getElem? (i := 193) (by decide +kernel)), rfl⟩
set_option maxRecDepth 100000 in
theorem ww_92 : Cond.selects "SealedRecords$End" ym_En_sendingSecret ym_En_sendingSecret ∈ q_W0 := List.mem_filter.mpr ⟨List.mem_append_right _ (List.mem_of_getElem? (i := 194) (by decide +kernel)), rfl⟩
theorem ww_93 : Cond.fieldLink "SealedRecords" 46 "SealedRecords$Side" "closed" "Z" ∈ q_W0 := List.mem_filter.mpr ⟨List.mem_append_right _ (List.mem_of_getElem? (i := 35) (by decide +kernel)), rfl⟩
theorem ww_94 : Cond.fieldLink "SealedRecords" 55 "SealedRecords$End" "messages" "LSealedRecords$Messages;" ∈ q_W0 := List.mem_filter.mpr ⟨List.mem_append_right _ (List.mem_of_getElem? (i := 119) (by decide +kernel)), rfl⟩
set_option maxRecDepth 100000 in
theorem ww_95 : Cond.code ym_Ms_isOpen prog_3_method_2_code 1 (some .boolean) ∈ q_W0 := List.mem_filter.mpr ⟨List.mem_append_right _ (List.mem_of_getElem? (i := 183) rfl), rfl⟩
theorem ww_96 : Cond.methodLink "SealedRecords" 59 ym_Ms_isOpen ∈ q_W0 := List.mem_filter.mpr ⟨List.mem_append_right _ (List.mem_of_getElem? (i := 180) (by decide +kernel)), rfl⟩
theorem ww_97 : Cond.instanceMethod ym_Ms_isOpen ∈ q_W0 := List.mem_filter.mpr ⟨List.mem_append_right _ (List.mem_of_getElem? (i := 181) (by decide +kernel)), rfl⟩
set_option maxRecDepth 100000 in
theorem ww_98 : Cond.selects "SealedRecords$Messages" ym_Ms_isOpen ym_Ms_isOpen ∈ q_W0 := List.mem_filter.mpr ⟨List.mem_append_right _ (List.mem_of_getElem? (i := 182) (by decide +kernel)), rfl⟩
set_option maxRecDepth 100000 in
theorem ww_99 : Cond.code ym_En_raiseAlert prog_2_method_8_code 2 (some .int) ∈ q_W0 := List.mem_filter.mpr ⟨List.mem_append_right _ (List.mem_of_getElem? (i := 187) rfl), rfl⟩
theorem ww_100 : Cond.methodLink "SealedRecords" 65 ym_En_raiseAlert ∈ q_W0 := List.mem_filter.mpr ⟨List.mem_append_right _ (List.mem_of_getElem? (i := 184) (by decide +kernel)), rfl⟩
theorem ww_101 : Cond.instanceMethod ym_En_raiseAlert ∈ q_W0 := List.mem_filter.mpr ⟨List.mem_append_right _ (List.mem_of_getElem? (i := 185) (by decide +kernel)), rfl⟩
set_option maxRecDepth 100000 in
theorem ww_102 : Cond.selects "SealedRecords$End" ym_En_raiseAlert ym_En_raiseAlert ∈ q_W0 := List.mem_filter.mpr ⟨List.mem_append_right _ (List.mem_of_getElem? (i := 186) (by decide +kernel)), rfl⟩
theorem ww_103 : Cond.fieldLink "SealedRecords" 43 "SealedRecords$End" "receiving" "LSealedRecords$Side;" ∈ q_W0 := List.mem_filter.mpr ⟨List.mem_append_right _ (List.mem_of_getElem? (i := 111) (by decide +kernel)), rfl⟩
theorem ww_104 : Cond.fieldLink "SealedRecords" 39 "SealedRecords$End" "sending" "LSealedRecords$Side;" ∈ q_W0 := List.mem_filter.mpr ⟨List.mem_append_right _ (List.mem_of_getElem? (i := 109) (by decide +kernel)), rfl⟩
theorem ww_105 : Cond.constantLong "SealedRecords$Side" 19 6 ∈ q_W0 := List.mem_filter.mpr ⟨List.mem_append_right _ (List.mem_of_getElem? (i := 213) (by decide +kernel)), rfl⟩
theorem ww_106 : Cond.methodLinkNest "SealedRecords$Side" 21 ym_SR_mix "SealedRecords" ∈ q_nw := by decide +kernel
theorem ww_107 : Cond.methodLink "SealedRecords$Side" 25 ym_Sd_useSecret ∈ q_W0 := List.mem_filter.mpr ⟨List.mem_append_right _ (List.mem_of_getElem? (i := 215) (by decide +kernel)), rfl⟩
set_option maxRecDepth 100000 in
theorem ww_108 : Cond.code ym_Sd_changeSecret prog_6_method_3_code 1 none ∈ q_W0 := List.mem_filter.mpr ⟨List.mem_append_right _ (List.mem_of_getElem? (i := 212) rfl), rfl⟩
theorem ww_109 : Cond.methodLink "SealedRecords" 80 ym_Sd_changeSecret ∈ q_W0 := List.mem_filter.mpr ⟨List.mem_append_right _ (List.mem_of_getElem? (i := 209) (by decide +kernel)), rfl⟩
theorem ww_110 : Cond.instanceMethod ym_Sd_changeSecret ∈ q_W0 := List.mem_filter.mpr ⟨List.mem_append_right _ (List.mem_of_getElem? (i := 210) (by decide +kernel)), rfl⟩
set_option maxRecDepth 100000 in
theorem ww_111 : Cond.selects "SealedRecords$Side" ym_Sd_changeSecret ym_Sd_changeSecret ∈ q_W0 := List.mem_filter.mpr ⟨List.mem_append_right _ (List.mem_of_getElem? (i := 211) (by decide +kernel)), rfl⟩
theorem ww_112 : Cond.fieldLink "SealedRecords" 83 "SealedRecords$End" "owesChange" "Z" ∈ q_W0 := List.mem_filter.mpr ⟨List.mem_append_right _ (List.mem_of_getElem? (i := 127) (by decide +kernel)), rfl⟩
theorem ww_113 : Cond.fieldLink "SealedRecords$Packet" 13 "SealedRecords$Packet" "size" "I" ∈ q_W0 := List.mem_filter.mpr ⟨List.mem_append_right _ (List.mem_of_getElem? (i := 59) (by decide +kernel)), rfl⟩
set_option maxRecDepth 100000 in
theorem ww_114 : Cond.code ym_SR_isByte prog_1_method_22_code 1 (some .boolean) ∈ q_W0 := List.mem_filter.mpr ⟨List.mem_append_right _ (List.mem_of_getElem? (i := 222) rfl), rfl⟩
theorem ww_115 : Cond.methodLink "SealedRecords" 86 ym_SR_isByte ∈ q_W0 := List.mem_filter.mpr ⟨List.mem_append_right _ (List.mem_of_getElem? (i := 220) (by decide +kernel)), rfl⟩
theorem ww_116 : Cond.static ym_SR_isByte ∈ q_W0 := List.mem_filter.mpr ⟨List.mem_append_right _ (List.mem_of_getElem? (i := 221) (by decide +kernel)), rfl⟩
theorem ww_117 : Cond.fieldLink "SealedRecords" 89 "SealedRecords$End" "draft" "LSealedRecords$Packet;" ∈ q_W0 := List.mem_filter.mpr ⟨List.mem_append_right _ (List.mem_of_getElem? (i := 113) (by decide +kernel)), rfl⟩
set_option maxRecDepth 100000 in
theorem ww_118 : Cond.code ym_Pk_isFull prog_4_method_2_code 1 (some .boolean) ∈ q_W0 := List.mem_filter.mpr ⟨List.mem_append_right _ (List.mem_of_getElem? (i := 226) rfl), rfl⟩
theorem ww_119 : Cond.methodLink "SealedRecords" 93 ym_Pk_isFull ∈ q_W0 := List.mem_filter.mpr ⟨List.mem_append_right _ (List.mem_of_getElem? (i := 223) (by decide +kernel)), rfl⟩
theorem ww_120 : Cond.instanceMethod ym_Pk_isFull ∈ q_W0 := List.mem_filter.mpr ⟨List.mem_append_right _ (List.mem_of_getElem? (i := 224) (by decide +kernel)), rfl⟩
set_option maxRecDepth 100000 in
theorem ww_121 : Cond.selects "SealedRecords$Packet" ym_Pk_isFull ym_Pk_isFull ∈ q_W0 := List.mem_filter.mpr ⟨List.mem_append_right _ (List.mem_of_getElem? (i := 225) (by decide +kernel)), rfl⟩
set_option maxRecDepth 100000 in
theorem ww_122 : Cond.code ym_Pk_append prog_4_method_4_code 2 none ∈ q_W0 := List.mem_filter.mpr ⟨List.mem_append_right _ (List.mem_of_getElem? (i := 230) rfl), rfl⟩
theorem ww_123 : Cond.methodLink "SealedRecords" 98 ym_Pk_append ∈ q_W0 := List.mem_filter.mpr ⟨List.mem_append_right _ (List.mem_of_getElem? (i := 227) (by decide +kernel)), rfl⟩
theorem ww_124 : Cond.instanceMethod ym_Pk_append ∈ q_W0 := List.mem_filter.mpr ⟨List.mem_append_right _ (List.mem_of_getElem? (i := 228) (by decide +kernel)), rfl⟩
set_option maxRecDepth 100000 in
theorem ww_125 : Cond.selects "SealedRecords$Packet" ym_Pk_append ym_Pk_append ∈ q_W0 := List.mem_filter.mpr ⟨List.mem_append_right _ (List.mem_of_getElem? (i := 229) (by decide +kernel)), rfl⟩
theorem ww_126 : Cond.fieldLink "SealedRecords$End" 70 "SealedRecords$Side" "stage" "I" ∈ q_W0 := List.mem_filter.mpr ⟨List.mem_append_right _ (List.mem_of_getElem? (i := 30) (by decide +kernel)), rfl⟩
theorem ww_127 : Cond.fieldLink "SealedRecords$End" 73 "SealedRecords$Packet" "size" "I" ∈ q_W0 := List.mem_filter.mpr ⟨List.mem_append_right _ (List.mem_of_getElem? (i := 60) (by decide +kernel)), rfl⟩
theorem ww_128 : Cond.fieldLink "SealedRecords$Row" 18 "SealedRecords$Row" "size" "I" ∈ q_W0 := List.mem_filter.mpr ⟨List.mem_append_right _ (List.mem_of_getElem? (i := 82) (by decide +kernel)), rfl⟩
theorem ww_129 : Cond.fieldLink "SealedRecords$Packet" 17 "SealedRecords$Packet" "type" "I" ∈ q_W0 := List.mem_filter.mpr ⟨List.mem_append_right _ (List.mem_of_getElem? (i := 56) (by decide +kernel)), rfl⟩
theorem ww_130 : Cond.methodLink "SealedRecords$Packet" 24 ym_Pk_append ∈ q_W0 := List.mem_filter.mpr ⟨List.mem_append_right _ (List.mem_of_getElem? (i := 259) (by decide +kernel)), rfl⟩
set_option maxRecDepth 100000 in
theorem ww_131 : Cond.code ym_Pk_restart prog_4_method_3_code 2 none ∈ q_W0 := List.mem_filter.mpr ⟨List.mem_append_right _ (List.mem_of_getElem? (i := 258) rfl), rfl⟩
theorem ww_132 : Cond.methodLink "SealedRecords$Packet" 20 ym_Pk_restart ∈ q_W0 := List.mem_filter.mpr ⟨List.mem_append_right _ (List.mem_of_getElem? (i := 255) (by decide +kernel)), rfl⟩
theorem ww_133 : Cond.instanceMethod ym_Pk_restart ∈ q_W0 := List.mem_filter.mpr ⟨List.mem_append_right _ (List.mem_of_getElem? (i := 256) (by decide +kernel)), rfl⟩
set_option maxRecDepth 100000 in
theorem ww_134 : Cond.selects "SealedRecords$Packet" ym_Pk_restart ym_Pk_restart ∈ q_W0 := List.mem_filter.mpr ⟨List.mem_append_right _ (List.mem_of_getElem? (i := 257) (by decide +kernel)), rfl⟩
theorem ww_135 : Cond.constantLong "SealedRecords$Side" 29 2 ∈ q_W0 := List.mem_filter.mpr ⟨List.mem_append_right _ (List.mem_of_getElem? (i := 276) (by decide +kernel)), rfl⟩
set_option maxRecDepth 100000 in
theorem ww_136 : Cond.code ym_Sd_tagByte prog_6_method_7_code 3 (some .int) ∈ q_W0 := List.mem_filter.mpr ⟨List.mem_append_right _ (List.mem_of_getElem? (i := 279) rfl), rfl⟩
theorem ww_137 : Cond.methodLink "SealedRecords$End" 115 ym_Sd_tagByte ∈ q_W0 := List.mem_filter.mpr ⟨List.mem_append_right _ (List.mem_of_getElem? (i := 277) (by decide +kernel)), rfl⟩
theorem ww_138 : Cond.static ym_Sd_tagByte ∈ q_W0 := List.mem_filter.mpr ⟨List.mem_append_right _ (List.mem_of_getElem? (i := 278) (by decide +kernel)), rfl⟩
theorem ww_139 : Cond.methodLink "SealedRecords$End" 83 ym_Pk_append ∈ q_W0 := List.mem_filter.mpr ⟨List.mem_append_right _ (List.mem_of_getElem? (i := 260) (by decide +kernel)), rfl⟩
theorem ww_140 : Cond.fieldLink "SealedRecords$End" 103 "SealedRecords$Packet" "bytes" "[I" ∈ q_W0 := List.mem_filter.mpr ⟨List.mem_append_right _ (List.mem_of_getElem? (i := 53) (by decide +kernel)), rfl⟩
set_option maxRecDepth 100000 in
theorem ww_141 : Cond.code ym_Sd_tagOf prog_6_method_6_code 6 (some .long) ∈ q_W0 := List.mem_filter.mpr ⟨List.mem_append_right _ (List.mem_of_getElem? (i := 275) rfl), rfl⟩
theorem ww_142 : Cond.methodLink "SealedRecords$End" 111 ym_Sd_tagOf ∈ q_W0 := List.mem_filter.mpr ⟨List.mem_append_right _ (List.mem_of_getElem? (i := 272) (by decide +kernel)), rfl⟩
theorem ww_143 : Cond.instanceMethod ym_Sd_tagOf ∈ q_W0 := List.mem_filter.mpr ⟨List.mem_append_right _ (List.mem_of_getElem? (i := 273) (by decide +kernel)), rfl⟩
set_option maxRecDepth 100000 in
theorem ww_144 : Cond.selects "SealedRecords$Side" ym_Sd_tagOf ym_Sd_tagOf ∈ q_W0 := List.mem_filter.mpr ⟨List.mem_append_right _ (List.mem_of_getElem? (i := 274) (by decide +kernel)), rfl⟩
set_option maxRecDepth 100000 in
theorem ww_145 : Cond.code ym_Sd_maskByte prog_6_method_5_code 3 (some .int) ∈ q_W0 := List.mem_filter.mpr ⟨List.mem_append_right _ (List.mem_of_getElem? (i := 271) rfl), rfl⟩
theorem ww_146 : Cond.methodLink "SealedRecords$End" 107 ym_Sd_maskByte ∈ q_W0 := List.mem_filter.mpr ⟨List.mem_append_right _ (List.mem_of_getElem? (i := 269) (by decide +kernel)), rfl⟩
theorem ww_147 : Cond.static ym_Sd_maskByte ∈ q_W0 := List.mem_filter.mpr ⟨List.mem_append_right _ (List.mem_of_getElem? (i := 270) (by decide +kernel)), rfl⟩
set_option maxRecDepth 100000 in
theorem ww_148 : Cond.code ym_Sd_maskSeed prog_6_method_4_code 1 (some .long) ∈ q_W0 := List.mem_filter.mpr ⟨List.mem_append_right _ (List.mem_of_getElem? (i := 268) rfl), rfl⟩
theorem ww_149 : Cond.methodLink "SealedRecords$End" 99 ym_Sd_maskSeed ∈ q_W0 := List.mem_filter.mpr ⟨List.mem_append_right _ (List.mem_of_getElem? (i := 265) (by decide +kernel)), rfl⟩
theorem ww_150 : Cond.instanceMethod ym_Sd_maskSeed ∈ q_W0 := List.mem_filter.mpr ⟨List.mem_append_right _ (List.mem_of_getElem? (i := 266) (by decide +kernel)), rfl⟩
set_option maxRecDepth 100000 in
theorem ww_151 : Cond.selects "SealedRecords$Side" ym_Sd_maskSeed ym_Sd_maskSeed ∈ q_W0 := List.mem_filter.mpr ⟨List.mem_append_right _ (List.mem_of_getElem? (i := 267) (by decide +kernel)), rfl⟩
theorem ww_152 : Cond.methodLink "SealedRecords$End" 89 ym_Pk_restart ∈ q_W0 := List.mem_filter.mpr ⟨List.mem_append_right _ (List.mem_of_getElem? (i := 280) (by decide +kernel)), rfl⟩
theorem ww_153 : Cond.fieldLink "SealedRecords$End" 92 "SealedRecords$Side" "count" "I" ∈ q_W0 := List.mem_filter.mpr ⟨List.mem_append_right _ (List.mem_of_getElem? (i := 33) (by decide +kernel)), rfl⟩
set_option maxRecDepth 100000 in
theorem ww_154 : Cond.code ym_En_maskAndTag prog_2_method_6_code 8 none ∈ q_W0 := List.mem_filter.mpr ⟨List.mem_append_right _ (List.mem_of_getElem? (i := 264) rfl), rfl⟩
theorem ww_155 : Cond.methodLink "SealedRecords$End" 86 ym_En_maskAndTag ∈ q_W0 := List.mem_filter.mpr ⟨List.mem_append_right _ (List.mem_of_getElem? (i := 261) (by decide +kernel)), rfl⟩
theorem ww_156 : Cond.instanceMethod ym_En_maskAndTag ∈ q_W0 := List.mem_filter.mpr ⟨List.mem_append_right _ (List.mem_of_getElem? (i := 262) (by decide +kernel)), rfl⟩
set_option maxRecDepth 100000 in
theorem ww_157 : Cond.selects "SealedRecords$End" ym_En_maskAndTag ym_En_maskAndTag ∈ q_W0 := List.mem_filter.mpr ⟨List.mem_append_right _ (List.mem_of_getElem? (i := 263) (by decide +kernel)), rfl⟩
set_option maxRecDepth 100000 in
theorem ww_158 : Cond.code ym_Pk_becomeLike prog_4_method_5_code 3 none ∈ q_W0 := List.mem_filter.mpr ⟨List.mem_append_right _ (List.mem_of_getElem? (i := 254) rfl), rfl⟩
theorem ww_159 : Cond.methodLink "SealedRecords$End" 76 ym_Pk_becomeLike ∈ q_W0 := List.mem_filter.mpr ⟨List.mem_append_right _ (List.mem_of_getElem? (i := 251) (by decide +kernel)), rfl⟩
theorem ww_160 : Cond.instanceMethod ym_Pk_becomeLike ∈ q_W0 := List.mem_filter.mpr ⟨List.mem_append_right _ (List.mem_of_getElem? (i := 252) (by decide +kernel)), rfl⟩
set_option maxRecDepth 100000 in
theorem ww_161 : Cond.selects "SealedRecords$Packet" ym_Pk_becomeLike ym_Pk_becomeLike ∈ q_W0 := List.mem_filter.mpr ⟨List.mem_append_right _ (List.mem_of_getElem? (i := 253) (by decide +kernel)), rfl⟩
theorem ww_162 : Cond.fieldLink "SealedRecords$End" 80 "SealedRecords$Packet" "type" "I" ∈ q_W0 := List.mem_filter.mpr ⟨List.mem_append_right _ (List.mem_of_getElem? (i := 57) (by decide +kernel)), rfl⟩
set_option maxRecDepth 100000 in
theorem ww_163 : Cond.code ym_En_allowsPadding prog_2_method_4_code 3 (some .boolean) ∈ q_W0 := List.mem_filter.mpr ⟨List.mem_append_right _ (List.mem_of_getElem? (i := 238) rfl), rfl⟩
theorem ww_164 : Cond.methodLink "SealedRecords" 101 ym_En_allowsPadding ∈ q_W0 := List.mem_filter.mpr ⟨List.mem_append_right _ (List.mem_of_getElem? (i := 235) (by decide +kernel)), rfl⟩
theorem ww_165 : Cond.instanceMethod ym_En_allowsPadding ∈ q_W0 := List.mem_filter.mpr ⟨List.mem_append_right _ (List.mem_of_getElem? (i := 236) (by decide +kernel)), rfl⟩
set_option maxRecDepth 100000 in
theorem ww_166 : Cond.selects "SealedRecords$End" ym_En_allowsPadding ym_En_allowsPadding ∈ q_W0 := List.mem_filter.mpr ⟨List.mem_append_right _ (List.mem_of_getElem? (i := 237) (by decide +kernel)), rfl⟩
theorem ww_167 : Cond.fieldLink "SealedRecords" 104 "SealedRecords$Side" "count" "I" ∈ q_W0 := List.mem_filter.mpr ⟨List.mem_append_right _ (List.mem_of_getElem? (i := 34) (by decide +kernel)), rfl⟩
theorem ww_168 : Cond.fieldLink "SealedRecords" 107 "SealedRecords$End" "arriving" "LSealedRecords$Row;" ∈ q_W0 := List.mem_filter.mpr ⟨List.mem_append_right _ (List.mem_of_getElem? (i := 115) (by decide +kernel)), rfl⟩
set_option maxRecDepth 100000 in
theorem ww_169 : Cond.code ym_Rw_isFull prog_5_method_2_code 1 (some .boolean) ∈ q_W0 := List.mem_filter.mpr ⟨List.mem_append_right _ (List.mem_of_getElem? (i := 242) rfl), rfl⟩
theorem ww_170 : Cond.methodLink "SealedRecords" 111 ym_Rw_isFull ∈ q_W0 := List.mem_filter.mpr ⟨List.mem_append_right _ (List.mem_of_getElem? (i := 239) (by decide +kernel)), rfl⟩
theorem ww_171 : Cond.instanceMethod ym_Rw_isFull ∈ q_W0 := List.mem_filter.mpr ⟨List.mem_append_right _ (List.mem_of_getElem? (i := 240) (by decide +kernel)), rfl⟩
set_option maxRecDepth 100000 in
theorem ww_172 : Cond.selects "SealedRecords$Row" ym_Rw_isFull ym_Rw_isFull ∈ q_W0 := List.mem_filter.mpr ⟨List.mem_append_right _ (List.mem_of_getElem? (i := 241) (by decide +kernel)), rfl⟩
set_option maxRecDepth 100000 in
theorem ww_173 : Cond.code ym_Rw_addNewest prog_5_method_4_code 2 (some (.object "SealedRecords$Packet")) ∈ q_W0 := List.mem_filter.mpr ⟨List.mem_append_right _ (List.mem_of_getElem? (i := 246) rfl), rfl⟩
theorem ww_174 : Cond.methodLink "SealedRecords" 114 ym_Rw_addNewest ∈ q_W0 := List.mem_filter.mpr ⟨List.mem_append_right _ (List.mem_of_getElem? (i := 243) (by decide +kernel)), rfl⟩
theorem ww_175 : Cond.instanceMethod ym_Rw_addNewest ∈ q_W0 := List.mem_filter.mpr ⟨List.mem_append_right _ (List.mem_of_getElem? (i := 244) (by decide +kernel)), rfl⟩
set_option maxRecDepth 100000 in
theorem ww_176 : Cond.selects "SealedRecords$Row" ym_Rw_addNewest ym_Rw_addNewest ∈ q_W0 := List.mem_filter.mpr ⟨List.mem_append_right _ (List.mem_of_getElem? (i := 245) (by decide +kernel)), rfl⟩
set_option maxRecDepth 100000 in
theorem ww_177 : Cond.code ym_En_sealDraft prog_2_method_5_code 5 none ∈ q_W0 := List.mem_filter.mpr ⟨List.mem_append_right _ (List.mem_of_getElem? (i := 250) rfl), rfl⟩
theorem ww_178 : Cond.methodLink "SealedRecords" 118 ym_En_sealDraft ∈ q_W0 := List.mem_filter.mpr ⟨List.mem_append_right _ (List.mem_of_getElem? (i := 247) (by decide +kernel)), rfl⟩
theorem ww_179 : Cond.instanceMethod ym_En_sealDraft ∈ q_W0 := List.mem_filter.mpr ⟨List.mem_append_right _ (List.mem_of_getElem? (i := 248) (by decide +kernel)), rfl⟩
set_option maxRecDepth 100000 in
theorem ww_180 : Cond.selects "SealedRecords$End" ym_En_sealDraft ym_En_sealDraft ∈ q_W0 := List.mem_filter.mpr ⟨List.mem_append_right _ (List.mem_of_getElem? (i := 249) (by decide +kernel)), rfl⟩
theorem ww_181 : Cond.fieldLink "SealedRecords" 122 "SealedRecords$Packet" "size" "I" ∈ q_W0 := List.mem_filter.mpr ⟨List.mem_append_right _ (List.mem_of_getElem? (i := 61) (by decide +kernel)), rfl⟩
theorem ww_182 : Cond.fieldLink "SealedRecords$Side" 36 "SealedRecords$Packet" "bytes" "[I" ∈ q_W0 := List.mem_filter.mpr ⟨List.mem_append_right _ (List.mem_of_getElem? (i := 54) (by decide +kernel)), rfl⟩
theorem ww_183 : Cond.methodLink "SealedRecords$Side" 44 ym_Sd_tagByte ∈ q_W0 := List.mem_filter.mpr ⟨List.mem_append_right _ (List.mem_of_getElem? (i := 314) (by decide +kernel)), rfl⟩
theorem ww_184 : Cond.fieldLink "SealedRecords$Side" 31 "SealedRecords$Packet" "size" "I" ∈ q_W0 := List.mem_filter.mpr ⟨List.mem_append_right _ (List.mem_of_getElem? (i := 62) (by decide +kernel)), rfl⟩
theorem ww_185 : Cond.methodLink "SealedRecords$Side" 40 ym_Sd_tagOf ∈ q_W0 := List.mem_filter.mpr ⟨List.mem_append_right _ (List.mem_of_getElem? (i := 313) (by decide +kernel)), rfl⟩
set_option maxRecDepth 100000 in
theorem ww_186 : Cond.code ym_Sd_endsWithTag prog_6_method_8_code 6 (some .boolean) ∈ q_W0 := List.mem_filter.mpr ⟨List.mem_append_right _ (List.mem_of_getElem? (i := 312) rfl), rfl⟩
theorem ww_187 : Cond.methodLink "SealedRecords$End" 143 ym_Sd_endsWithTag ∈ q_W0 := List.mem_filter.mpr ⟨List.mem_append_right _ (List.mem_of_getElem? (i := 309) (by decide +kernel)), rfl⟩
theorem ww_188 : Cond.instanceMethod ym_Sd_endsWithTag ∈ q_W0 := List.mem_filter.mpr ⟨List.mem_append_right _ (List.mem_of_getElem? (i := 310) (by decide +kernel)), rfl⟩
set_option maxRecDepth 100000 in
theorem ww_189 : Cond.selects "SealedRecords$Side" ym_Sd_endsWithTag ym_Sd_endsWithTag ∈ q_W0 := List.mem_filter.mpr ⟨List.mem_append_right _ (List.mem_of_getElem? (i := 311) (by decide +kernel)), rfl⟩
set_option maxRecDepth 100000 in
theorem ww_190 : Cond.code ym_En_openSealed prog_2_method_13_code 8 (some .int) ∈ q_W0 := List.mem_filter.mpr ⟨List.mem_append_right _ (List.mem_of_getElem? (i := 318) rfl), rfl⟩
theorem ww_191 : Cond.methodLink "SealedRecords$End" 146 ym_En_openSealed ∈ q_W0 := List.mem_filter.mpr ⟨List.mem_append_right _ (List.mem_of_getElem? (i := 315) (by decide +kernel)), rfl⟩
theorem ww_192 : Cond.instanceMethod ym_En_openSealed ∈ q_W0 := List.mem_filter.mpr ⟨List.mem_append_right _ (List.mem_of_getElem? (i := 316) (by decide +kernel)), rfl⟩
set_option maxRecDepth 100000 in
theorem ww_193 : Cond.selects "SealedRecords$End" ym_En_openSealed ym_En_openSealed ∈ q_W0 := List.mem_filter.mpr ⟨List.mem_append_right _ (List.mem_of_getElem? (i := 317) (by decide +kernel)), rfl⟩
set_option maxRecDepth 100000 in
theorem ww_194 : Cond.code ym_En_openPlain prog_2_method_12_code 2 (some .int) ∈ q_W0 := List.mem_filter.mpr ⟨List.mem_append_right _ (List.mem_of_getElem? (i := 308) rfl), rfl⟩
theorem ww_195 : Cond.methodLink "SealedRecords$End" 140 ym_En_openPlain ∈ q_W0 := List.mem_filter.mpr ⟨List.mem_append_right _ (List.mem_of_getElem? (i := 305) (by decide +kernel)), rfl⟩
theorem ww_196 : Cond.instanceMethod ym_En_openPlain ∈ q_W0 := List.mem_filter.mpr ⟨List.mem_append_right _ (List.mem_of_getElem? (i := 306) (by decide +kernel)), rfl⟩
set_option maxRecDepth 100000 in
theorem ww_197 : Cond.selects "SealedRecords$End" ym_En_openPlain ym_En_openPlain ∈ q_W0 := List.mem_filter.mpr ⟨List.mem_append_right _ (List.mem_of_getElem? (i := 307) (by decide +kernel)), rfl⟩
set_option maxRecDepth 100000 in
theorem ww_198 : Cond.code ym_En_isIgnored prog_2_method_11_code 2 (some .boolean) ∈ q_W0 := List.mem_filter.mpr ⟨List.mem_append_right _ (List.mem_of_getElem? (i := 304) rfl), rfl⟩
theorem ww_199 : Cond.methodLink "SealedRecords$End" 136 ym_En_isIgnored ∈ q_W0 := List.mem_filter.mpr ⟨List.mem_append_right _ (List.mem_of_getElem? (i := 301) (by decide +kernel)), rfl⟩
theorem ww_200 : Cond.instanceMethod ym_En_isIgnored ∈ q_W0 := List.mem_filter.mpr ⟨List.mem_append_right _ (List.mem_of_getElem? (i := 302) (by decide +kernel)), rfl⟩
set_option maxRecDepth 100000 in
theorem ww_201 : Cond.selects "SealedRecords$End" ym_En_isIgnored ym_En_isIgnored ∈ q_W0 := List.mem_filter.mpr ⟨List.mem_append_right _ (List.mem_of_getElem? (i := 303) (by decide +kernel)), rfl⟩
theorem ww_202 : Cond.fieldLink "SealedRecords$Messages" 13 "SealedRecords$Messages" "kind" "I" ∈ q_W0 := List.mem_filter.mpr ⟨List.mem_append_right _ (List.mem_of_getElem? (i := 95) (by decide +kernel)), rfl⟩
theorem ww_203 : Cond.fieldLink "SealedRecords$Messages" 16 "SealedRecords$Messages" "length" "I" ∈ q_W0 := List.mem_filter.mpr ⟨List.mem_append_right _ (List.mem_of_getElem? (i := 97) (by decide +kernel)), rfl⟩
set_option maxRecDepth 100000 in
theorem ww_204 : Cond.code ym_Ms_completesWith prog_3_method_4_code 2 (some .boolean) ∈ q_W0 := List.mem_filter.mpr ⟨List.mem_append_right _ (List.mem_of_getElem? (i := 335) rfl), rfl⟩
theorem ww_205 : Cond.methodLink "SealedRecords$End" 159 ym_Ms_completesWith ∈ q_W0 := List.mem_filter.mpr ⟨List.mem_append_right _ (List.mem_of_getElem? (i := 332) (by decide +kernel)), rfl⟩
theorem ww_206 : Cond.instanceMethod ym_Ms_completesWith ∈ q_W0 := List.mem_filter.mpr ⟨List.mem_append_right _ (List.mem_of_getElem? (i := 333) (by decide +kernel)), rfl⟩
set_option maxRecDepth 100000 in
theorem ww_207 : Cond.selects "SealedRecords$Messages" ym_Ms_completesWith ym_Ms_completesWith ∈ q_W0 := List.mem_filter.mpr ⟨List.mem_append_right _ (List.mem_of_getElem? (i := 334) (by decide +kernel)), rfl⟩
theorem ww_208 : Cond.fieldLink "SealedRecords$End" 163 "SealedRecords$Messages" "kind" "I" ∈ q_W0 := List.mem_filter.mpr ⟨List.mem_append_right _ (List.mem_of_getElem? (i := 96) (by decide +kernel)), rfl⟩
theorem ww_209 : Cond.fieldLink "SealedRecords$End" 166 "SealedRecords$Messages" "length" "I" ∈ q_W0 := List.mem_filter.mpr ⟨List.mem_append_right _ (List.mem_of_getElem? (i := 98) (by decide +kernel)), rfl⟩
set_option maxRecDepth 100000 in
theorem ww_210 : Cond.code ym_En_judgeKeyChange prog_2_method_16_code 3 (some .int) ∈ q_W0 := List.mem_filter.mpr ⟨List.mem_append_right _ (List.mem_of_getElem? (i := 339) rfl), rfl⟩
theorem ww_211 : Cond.methodLink "SealedRecords$End" 169 ym_En_judgeKeyChange ∈ q_W0 := List.mem_filter.mpr ⟨List.mem_append_right _ (List.mem_of_getElem? (i := 336) (by decide +kernel)), rfl⟩
theorem ww_212 : Cond.instanceMethod ym_En_judgeKeyChange ∈ q_W0 := List.mem_filter.mpr ⟨List.mem_append_right _ (List.mem_of_getElem? (i := 337) (by decide +kernel)), rfl⟩
set_option maxRecDepth 100000 in
theorem ww_213 : Cond.selects "SealedRecords$End" ym_En_judgeKeyChange ym_En_judgeKeyChange ∈ q_W0 := List.mem_filter.mpr ⟨List.mem_append_right _ (List.mem_of_getElem? (i := 338) (by decide +kernel)), rfl⟩
set_option maxRecDepth 100000 in
theorem ww_214 : Cond.code ym_Ms_becomeLike prog_3_method_3_code 2 none ∈ q_W0 := List.mem_filter.mpr ⟨List.mem_append_right _ (List.mem_of_getElem? (i := 331) rfl), rfl⟩
theorem ww_215 : Cond.methodLink "SealedRecords$End" 156 ym_Ms_becomeLike ∈ q_W0 := List.mem_filter.mpr ⟨List.mem_append_right _ (List.mem_of_getElem? (i := 328) (by decide +kernel)), rfl⟩
theorem ww_216 : Cond.instanceMethod ym_Ms_becomeLike ∈ q_W0 := List.mem_filter.mpr ⟨List.mem_append_right _ (List.mem_of_getElem? (i := 329) (by decide +kernel)), rfl⟩
set_option maxRecDepth 100000 in
theorem ww_217 : Cond.selects "SealedRecords$Messages" ym_Ms_becomeLike ym_Ms_becomeLike ∈ q_W0 := List.mem_filter.mpr ⟨List.mem_append_right _ (List.mem_of_getElem? (i := 330) (by decide +kernel)), rfl⟩
set_option maxRecDepth 100000 in
theorem ww_218 : Cond.code ym_En_judgeMessages prog_2_method_15_code 2 (some .int) ∈ q_W0 := List.mem_filter.mpr ⟨List.mem_append_right _ (List.mem_of_getElem? (i := 327) rfl), rfl⟩
theorem ww_219 : Cond.methodLink "SealedRecords$End" 153 ym_En_judgeMessages ∈ q_W0 := List.mem_filter.mpr ⟨List.mem_append_right _ (List.mem_of_getElem? (i := 324) (by decide +kernel)), rfl⟩
theorem ww_220 : Cond.instanceMethod ym_En_judgeMessages ∈ q_W0 := List.mem_filter.mpr ⟨List.mem_append_right _ (List.mem_of_getElem? (i := 325) (by decide +kernel)), rfl⟩
set_option maxRecDepth 100000 in
theorem ww_221 : Cond.selects "SealedRecords$End" ym_En_judgeMessages ym_En_judgeMessages ∈ q_W0 := List.mem_filter.mpr ⟨List.mem_append_right _ (List.mem_of_getElem? (i := 326) (by decide +kernel)), rfl⟩
theorem ww_222 : Cond.methodLink "SealedRecords$End" 149 ym_Ms_isOpen ∈ q_W0 := List.mem_filter.mpr ⟨List.mem_append_right _ (List.mem_of_getElem? (i := 323) (by decide +kernel)), rfl⟩
theorem ww_223 : Cond.methodLink "SealedRecords$End" 183 ym_Sd_changeSecret ∈ q_W0 := List.mem_filter.mpr ⟨List.mem_append_right _ (List.mem_of_getElem? (i := 354) (by decide +kernel)), rfl⟩
theorem ww_224 : Cond.fieldLink "SealedRecords$End" 186 "SealedRecords$End" "owesChange" "Z" ∈ q_W0 := List.mem_filter.mpr ⟨List.mem_append_right _ (List.mem_of_getElem? (i := 128) (by decide +kernel)), rfl⟩
set_option maxRecDepth 100000 in
theorem ww_225 : Cond.code ym_En_changeKey prog_2_method_19_code 2 none ∈ q_W0 := List.mem_filter.mpr ⟨List.mem_append_right _ (List.mem_of_getElem? (i := 353) rfl), rfl⟩
theorem ww_226 : Cond.methodLink "SealedRecords$End" 180 ym_En_changeKey ∈ q_W0 := List.mem_filter.mpr ⟨List.mem_append_right _ (List.mem_of_getElem? (i := 350) (by decide +kernel)), rfl⟩
theorem ww_227 : Cond.instanceMethod ym_En_changeKey ∈ q_W0 := List.mem_filter.mpr ⟨List.mem_append_right _ (List.mem_of_getElem? (i := 351) (by decide +kernel)), rfl⟩
set_option maxRecDepth 100000 in
theorem ww_228 : Cond.selects "SealedRecords$End" ym_En_changeKey ym_En_changeKey ∈ q_W0 := List.mem_filter.mpr ⟨List.mem_append_right _ (List.mem_of_getElem? (i := 352) (by decide +kernel)), rfl⟩
set_option maxRecDepth 100000 in
theorem ww_229 : Cond.code ym_En_acceptMessages prog_2_method_18_code 3 none ∈ q_W0 := List.mem_filter.mpr ⟨List.mem_append_right _ (List.mem_of_getElem? (i := 349) rfl), rfl⟩
theorem ww_230 : Cond.methodLink "SealedRecords$End" 177 ym_En_acceptMessages ∈ q_W0 := List.mem_filter.mpr ⟨List.mem_append_right _ (List.mem_of_getElem? (i := 346) (by decide +kernel)), rfl⟩
theorem ww_231 : Cond.instanceMethod ym_En_acceptMessages ∈ q_W0 := List.mem_filter.mpr ⟨List.mem_append_right _ (List.mem_of_getElem? (i := 347) (by decide +kernel)), rfl⟩
set_option maxRecDepth 100000 in
theorem ww_232 : Cond.selects "SealedRecords$End" ym_En_acceptMessages ym_En_acceptMessages ∈ q_W0 := List.mem_filter.mpr ⟨List.mem_append_right _ (List.mem_of_getElem? (i := 348) (by decide +kernel)), rfl⟩
theorem ww_233 : Cond.methodLink "SealedRecords$End" 173 ym_Rw_addNewest ∈ q_W0 := List.mem_filter.mpr ⟨List.mem_append_right _ (List.mem_of_getElem? (i := 345) (by decide +kernel)), rfl⟩
set_option maxRecDepth 100000 in
theorem ww_234 : Cond.code ym_En_accept prog_2_method_17_code 1 none ∈ q_W0 := List.mem_filter.mpr ⟨List.mem_append_right _ (List.mem_of_getElem? (i := 344) rfl), rfl⟩
theorem ww_235 : Cond.methodLink "SealedRecords$End" 130 ym_En_accept ∈ q_W0 := List.mem_filter.mpr ⟨List.mem_append_right _ (List.mem_of_getElem? (i := 341) (by decide +kernel)), rfl⟩
theorem ww_236 : Cond.instanceMethod ym_En_accept ∈ q_W0 := List.mem_filter.mpr ⟨List.mem_append_right _ (List.mem_of_getElem? (i := 342) (by decide +kernel)), rfl⟩
set_option maxRecDepth 100000 in
theorem ww_237 : Cond.selects "SealedRecords$End" ym_En_accept ym_En_accept ∈ q_W0 := List.mem_filter.mpr ⟨List.mem_append_right _ (List.mem_of_getElem? (i := 343) (by decide +kernel)), rfl⟩
theorem ww_238 : Cond.methodLink "SealedRecords$End" 126 ym_En_raiseAlert ∈ q_W0 := List.mem_filter.mpr ⟨List.mem_append_right _ (List.mem_of_getElem? (i := 340) (by decide +kernel)), rfl⟩
set_option maxRecDepth 100000 in
theorem ww_239 : Cond.code ym_En_open prog_2_method_10_code 2 (some .int) ∈ q_W0 := List.mem_filter.mpr ⟨List.mem_append_right _ (List.mem_of_getElem? (i := 300) rfl), rfl⟩
theorem ww_240 : Cond.methodLink "SealedRecords$End" 118 ym_En_open ∈ q_W0 := List.mem_filter.mpr ⟨List.mem_append_right _ (List.mem_of_getElem? (i := 297) (by decide +kernel)), rfl⟩
theorem ww_241 : Cond.instanceMethod ym_En_open ∈ q_W0 := List.mem_filter.mpr ⟨List.mem_append_right _ (List.mem_of_getElem? (i := 298) (by decide +kernel)), rfl⟩
set_option maxRecDepth 100000 in
theorem ww_242 : Cond.selects "SealedRecords$End" ym_En_open ym_En_open ∈ q_W0 := List.mem_filter.mpr ⟨List.mem_append_right _ (List.mem_of_getElem? (i := 299) (by decide +kernel)), rfl⟩
set_option maxRecDepth 100000 in
theorem ww_243 : Cond.code ym_En_judge prog_2_method_14_code 2 (some .int) ∈ q_W0 := List.mem_filter.mpr ⟨List.mem_append_right _ (List.mem_of_getElem? (i := 322) rfl), rfl⟩
theorem ww_244 : Cond.methodLink "SealedRecords$End" 122 ym_En_judge ∈ q_W0 := List.mem_filter.mpr ⟨List.mem_append_right _ (List.mem_of_getElem? (i := 319) (by decide +kernel)), rfl⟩
theorem ww_245 : Cond.instanceMethod ym_En_judge ∈ q_W0 := List.mem_filter.mpr ⟨List.mem_append_right _ (List.mem_of_getElem? (i := 320) (by decide +kernel)), rfl⟩
set_option maxRecDepth 100000 in
theorem ww_246 : Cond.selects "SealedRecords$End" ym_En_judge ym_En_judge ∈ q_W0 := List.mem_filter.mpr ⟨List.mem_append_right _ (List.mem_of_getElem? (i := 321) (by decide +kernel)), rfl⟩
set_option maxRecDepth 100000 in
theorem ww_247 : Cond.code ym_Rw_has prog_5_method_3_code 2 (some .boolean) ∈ q_W0 := List.mem_filter.mpr ⟨List.mem_append_right _ (List.mem_of_getElem? (i := 288) rfl), rfl⟩
theorem ww_248 : Cond.methodLink "SealedRecords" 125 ym_Rw_has ∈ q_W0 := List.mem_filter.mpr ⟨List.mem_append_right _ (List.mem_of_getElem? (i := 285) (by decide +kernel)), rfl⟩
theorem ww_249 : Cond.instanceMethod ym_Rw_has ∈ q_W0 := List.mem_filter.mpr ⟨List.mem_append_right _ (List.mem_of_getElem? (i := 286) (by decide +kernel)), rfl⟩
set_option maxRecDepth 100000 in
theorem ww_250 : Cond.selects "SealedRecords$Row" ym_Rw_has ym_Rw_has ∈ q_W0 := List.mem_filter.mpr ⟨List.mem_append_right _ (List.mem_of_getElem? (i := 287) (by decide +kernel)), rfl⟩
theorem ww_251 : Cond.fieldLink "SealedRecords" 132 "SealedRecords$End" "delivered" "LSealedRecords$Row;" ∈ q_W0 := List.mem_filter.mpr ⟨List.mem_append_right _ (List.mem_of_getElem? (i := 117) (by decide +kernel)), rfl⟩
set_option maxRecDepth 100000 in
theorem ww_252 : Cond.code ym_Rw_remove prog_5_method_5_code 4 (some (.object "SealedRecords$Packet")) ∈ q_W0 := List.mem_filter.mpr ⟨List.mem_append_right _ (List.mem_of_getElem? (i := 292) rfl), rfl⟩
theorem ww_253 : Cond.methodLink "SealedRecords" 128 ym_Rw_remove ∈ q_W0 := List.mem_filter.mpr ⟨List.mem_append_right _ (List.mem_of_getElem? (i := 289) (by decide +kernel)), rfl⟩
theorem ww_254 : Cond.instanceMethod ym_Rw_remove ∈ q_W0 := List.mem_filter.mpr ⟨List.mem_append_right _ (List.mem_of_getElem? (i := 290) (by decide +kernel)), rfl⟩
set_option maxRecDepth 100000 in
theorem ww_255 : Cond.selects "SealedRecords$Row" ym_Rw_remove ym_Rw_remove ∈ q_W0 := List.mem_filter.mpr ⟨List.mem_append_right _ (List.mem_of_getElem? (i := 291) (by decide +kernel)), rfl⟩
set_option maxRecDepth 100000 in
theorem ww_256 : Cond.code ym_En_receive prog_2_method_7_code 3 (some .int) ∈ q_W0 := List.mem_filter.mpr ⟨List.mem_append_right _ (List.mem_of_getElem? (i := 296) rfl), rfl⟩
theorem ww_257 : Cond.methodLink "SealedRecords" 135 ym_En_receive ∈ q_W0 := List.mem_filter.mpr ⟨List.mem_append_right _ (List.mem_of_getElem? (i := 293) (by decide +kernel)), rfl⟩
theorem ww_258 : Cond.instanceMethod ym_En_receive ∈ q_W0 := List.mem_filter.mpr ⟨List.mem_append_right _ (List.mem_of_getElem? (i := 294) (by decide +kernel)), rfl⟩
set_option maxRecDepth 100000 in
theorem ww_259 : Cond.selects "SealedRecords$End" ym_En_receive ym_En_receive ∈ q_W0 := List.mem_filter.mpr ⟨List.mem_append_right _ (List.mem_of_getElem? (i := 295) (by decide +kernel)), rfl⟩
set_option maxRecDepth 100000 in
theorem ww_260 : Cond.code ym_SR_isOnWire prog_1_method_20_code 3 (some .boolean) ∈ q_W0 := List.mem_filter.mpr ⟨List.mem_append_right _ (List.mem_of_getElem? (i := 362) rfl), rfl⟩
theorem ww_261 : Cond.methodLink "SealedRecords" 139 ym_SR_isOnWire ∈ q_W0 := List.mem_filter.mpr ⟨List.mem_append_right _ (List.mem_of_getElem? (i := 359) (by decide +kernel)), rfl⟩
theorem ww_262 : Cond.instanceMethod ym_SR_isOnWire ∈ q_W0 := List.mem_filter.mpr ⟨List.mem_append_right _ (List.mem_of_getElem? (i := 361) (by decide +kernel)), rfl⟩
set_option maxRecDepth 100000 in
theorem ww_263 : Cond.selects "SealedRecords" ym_SR_isOnWire ym_SR_isOnWire ∈ q_W0 := List.mem_filter.mpr ⟨List.mem_append_left _ (List.mem_of_getElem? (i := 0) rfl), rfl⟩
theorem ww_264 : Cond.fieldLink "SealedRecords" 143 "SealedRecords$Row" "slots" "[LSealedRecords$Packet;" ∈ q_W0 := List.mem_filter.mpr ⟨List.mem_append_right _ (List.mem_of_getElem? (i := 81) (by decide +kernel)), rfl⟩
theorem ww_265 : Cond.fieldLink "SealedRecords" 150 "SealedRecords$Packet" "bytes" "[I" ∈ q_W0 := List.mem_filter.mpr ⟨List.mem_append_right _ (List.mem_of_getElem? (i := 55) (by decide +kernel)), rfl⟩
theorem ww_266 : Cond.fieldLink "SealedRecords" 147 "SealedRecords$Packet" "type" "I" ∈ q_W0 := List.mem_filter.mpr ⟨List.mem_append_right _ (List.mem_of_getElem? (i := 58) (by decide +kernel)), rfl⟩
theorem ww_267 : Cond.methodLink "SealedRecords" 154 ym_Pk_becomeLike ∈ q_W0 := List.mem_filter.mpr ⟨List.mem_append_right _ (List.mem_of_getElem? (i := 375) (by decide +kernel)), rfl⟩
theorem ww_268 : Cond.methodLink "SealedRecords" 158 ym_Pk_restart ∈ q_W0 := List.mem_filter.mpr ⟨List.mem_append_right _ (List.mem_of_getElem? (i := 384) (by decide +kernel)), rfl⟩
theorem ww_269 : Cond.fieldLink "SealedRecords" 161 "SealedRecords$Row" "size" "I" ∈ q_W0 := List.mem_filter.mpr ⟨List.mem_append_right _ (List.mem_of_getElem? (i := 83) (by decide +kernel)), rfl⟩
set_option maxRecDepth 100000 in
theorem ww_270 : Cond.code ym_SR_asNumber prog_1_method_23_code 1 (some .int) ∈ q_W0 := List.mem_filter.mpr ⟨List.mem_append_right _ (List.mem_of_getElem? (i := 411) rfl), rfl⟩
theorem ww_271 : Cond.methodLink "SealedRecords" 162 ym_SR_asNumber ∈ q_W0 := List.mem_filter.mpr ⟨List.mem_append_right _ (List.mem_of_getElem? (i := 409) (by decide +kernel)), rfl⟩
theorem ww_272 : Cond.static ym_SR_asNumber ∈ q_W0 := List.mem_filter.mpr ⟨List.mem_append_right _ (List.mem_of_getElem? (i := 410) (by decide +kernel)), rfl⟩
theorem ww_273 : Cond.fieldLink "SealedRecords" 166 "SealedRecords$End" "reason" "I" ∈ q_W0 := List.mem_filter.mpr ⟨List.mem_append_right _ (List.mem_of_getElem? (i := 126) (by decide +kernel)), rfl⟩
theorem ww_274 : Cond.fieldLink "SealedRecordsModel" 75 "SealedRecordsModel" "limit" "I" ∈ q_W0 := List.mem_filter.mpr ⟨List.mem_append_right _ (List.mem_of_getElem? (i := 421) (by decide +kernel)), rfl⟩
theorem ww_275 : Cond.methodLink "SealedRecordsModel" 1 Lib.objectInit ∈ q_W0 := List.mem_filter.mpr ⟨List.mem_append_right _ (List.mem_of_getElem? (i := 420) (by decide +kernel)), rfl⟩
theorem ww_276 : Cond.arrayClass .long ∈ q_W0 := List.mem_filter.mpr ⟨List.mem_append_right _ (List.mem_of_getElem? (i := 506) (by decide +kernel)), rfl⟩
theorem ww_277 : Cond.fieldLink "SealedRecordsModel" 7 "SealedRecordsModel" "chain" "[J" ∈ q_W0 := List.mem_filter.mpr ⟨List.mem_append_right _ (List.mem_of_getElem? (i := 422) (by decide +kernel)), rfl⟩
theorem ww_278 : Cond.fieldLink "SealedRecordsModel" 13 "SealedRecordsModel" "chainStage" "[I" ∈ q_W0 := List.mem_filter.mpr ⟨List.mem_append_right _ (List.mem_of_getElem? (i := 423) (by decide +kernel)), rfl⟩
theorem ww_279 : Cond.fieldLink "SealedRecordsModel" 17 "SealedRecordsModel" "stage" "[I" ∈ q_W0 := List.mem_filter.mpr ⟨List.mem_append_right _ (List.mem_of_getElem? (i := 424) (by decide +kernel)), rfl⟩
theorem ww_280 : Cond.fieldLink "SealedRecordsModel" 20 "SealedRecordsModel" "secrets" "[J" ∈ q_W0 := List.mem_filter.mpr ⟨List.mem_append_right _ (List.mem_of_getElem? (i := 425) (by decide +kernel)), rfl⟩
theorem ww_281 : Cond.fieldLink "SealedRecordsModel" 23 "SealedRecordsModel" "count" "[I" ∈ q_W0 := List.mem_filter.mpr ⟨List.mem_append_right _ (List.mem_of_getElem? (i := 426) (by decide +kernel)), rfl⟩
theorem ww_282 : Cond.arrayClass .boolean ∈ q_W0 := List.mem_filter.mpr ⟨List.mem_append_right _ (List.mem_of_getElem? (i := 507) (by decide +kernel)), rfl⟩
theorem ww_283 : Cond.fieldLink "SealedRecordsModel" 26 "SealedRecordsModel" "closed" "[Z" ∈ q_W0 := List.mem_filter.mpr ⟨List.mem_append_right _ (List.mem_of_getElem? (i := 427) (by decide +kernel)), rfl⟩
theorem ww_284 : Cond.fieldLink "SealedRecordsModel" 30 "SealedRecordsModel" "reason" "[I" ∈ q_W0 := List.mem_filter.mpr ⟨List.mem_append_right _ (List.mem_of_getElem? (i := 428) (by decide +kernel)), rfl⟩
theorem ww_285 : Cond.fieldLink "SealedRecordsModel" 33 "SealedRecordsModel" "owes" "[Z" ∈ q_W0 := List.mem_filter.mpr ⟨List.mem_append_right _ (List.mem_of_getElem? (i := 429) (by decide +kernel)), rfl⟩
theorem ww_286 : Cond.fieldLink "SealedRecordsModel" 36 "SealedRecordsModel" "draft" "[I" ∈ q_W0 := List.mem_filter.mpr ⟨List.mem_append_right _ (List.mem_of_getElem? (i := 430) (by decide +kernel)), rfl⟩
theorem ww_287 : Cond.fieldLink "SealedRecordsModel" 39 "SealedRecordsModel" "drafted" "[I" ∈ q_W0 := List.mem_filter.mpr ⟨List.mem_append_right _ (List.mem_of_getElem? (i := 431) (by decide +kernel)), rfl⟩
theorem ww_288 : Cond.fieldLink "SealedRecordsModel" 42 "SealedRecordsModel" "waits" "[I" ∈ q_W0 := List.mem_filter.mpr ⟨List.mem_append_right _ (List.mem_of_getElem? (i := 432) (by decide +kernel)), rfl⟩
theorem ww_289 : Cond.fieldLink "SealedRecordsModel" 45 "SealedRecordsModel" "type" "[I" ∈ q_W0 := List.mem_filter.mpr ⟨List.mem_append_right _ (List.mem_of_getElem? (i := 433) (by decide +kernel)), rfl⟩
theorem ww_290 : Cond.fieldLink "SealedRecordsModel" 48 "SealedRecordsModel" "size" "[I" ∈ q_W0 := List.mem_filter.mpr ⟨List.mem_append_right _ (List.mem_of_getElem? (i := 434) (by decide +kernel)), rfl⟩
theorem ww_291 : Cond.fieldLink "SealedRecordsModel" 51 "SealedRecordsModel" "payload" "[I" ∈ q_W0 := List.mem_filter.mpr ⟨List.mem_append_right _ (List.mem_of_getElem? (i := 435) (by decide +kernel)), rfl⟩
theorem ww_292 : Cond.fieldLink "SealedRecordsModel" 54 "SealedRecordsModel" "held" "[I" ∈ q_W0 := List.mem_filter.mpr ⟨List.mem_append_right _ (List.mem_of_getElem? (i := 436) (by decide +kernel)), rfl⟩
theorem ww_293 : Cond.fieldLink "SealedRecordsModel" 57 "SealedRecordsModel" "itemType" "[I" ∈ q_W0 := List.mem_filter.mpr ⟨List.mem_append_right _ (List.mem_of_getElem? (i := 437) (by decide +kernel)), rfl⟩
theorem ww_294 : Cond.fieldLink "SealedRecordsModel" 60 "SealedRecordsModel" "itemSize" "[I" ∈ q_W0 := List.mem_filter.mpr ⟨List.mem_append_right _ (List.mem_of_getElem? (i := 438) (by decide +kernel)), rfl⟩
theorem ww_295 : Cond.fieldLink "SealedRecordsModel" 63 "SealedRecordsModel" "itemBytes" "[I" ∈ q_W0 := List.mem_filter.mpr ⟨List.mem_append_right _ (List.mem_of_getElem? (i := 439) (by decide +kernel)), rfl⟩
theorem ww_296 : Cond.fieldLink "SealedRecordsModel" 66 "SealedRecordsModel" "open" "[I" ∈ q_W0 := List.mem_filter.mpr ⟨List.mem_append_right _ (List.mem_of_getElem? (i := 440) (by decide +kernel)), rfl⟩
theorem ww_297 : Cond.fieldLink "SealedRecordsModel" 69 "SealedRecordsModel" "message" "[I" ∈ q_W0 := List.mem_filter.mpr ⟨List.mem_append_right _ (List.mem_of_getElem? (i := 441) (by decide +kernel)), rfl⟩
theorem ww_298 : Cond.fieldLink "SealedRecordsModel" 72 "SealedRecordsModel" "content" "[I" ∈ q_W0 := List.mem_filter.mpr ⟨List.mem_append_right _ (List.mem_of_getElem? (i := 444) (by decide +kernel)), rfl⟩
theorem ww_299 : Cond.constantLong "SealedRecordsModel" 79 6364136223846793005 ∈ q_W0 := List.mem_filter.mpr ⟨List.mem_append_right _ (List.mem_of_getElem? (i := 519) (by decide +kernel)), rfl⟩
theorem ww_300 : Cond.constantLong "SealedRecordsModel" 81 1442695040888963407 ∈ q_W0 := List.mem_filter.mpr ⟨List.mem_append_right _ (List.mem_of_getElem? (i := 520) (by decide +kernel)), rfl⟩
set_option maxRecDepth 100000 in
theorem ww_301 : Cond.code ym_Mo_isEnd prog_8_method_3_code 1 (some .boolean) ∈ q_W0 := List.mem_filter.mpr ⟨List.mem_append_right _ (List.mem_of_getElem? (i := 514) rfl), rfl⟩
theorem ww_302 : Cond.methodLink "SealedRecordsModel" 83 ym_Mo_isEnd ∈ q_W0 := List.mem_filter.mpr ⟨List.mem_append_right _ (List.mem_of_getElem? (i := 512) (by decide +kernel)), rfl⟩
theorem ww_303 : Cond.static ym_Mo_isEnd ∈ q_W0 := List.mem_filter.mpr ⟨List.mem_append_right _ (List.mem_of_getElem? (i := 513) (by decide +kernel)), rfl⟩
theorem ww_304 : Cond.constantLong "SealedRecordsModel" 87 3 ∈ q_W0 := List.mem_filter.mpr ⟨List.mem_append_right _ (List.mem_of_getElem? (i := 515) (by decide +kernel)), rfl⟩
set_option maxRecDepth 100000 in
theorem ww_305 : Cond.code ym_Mo_mix prog_8_method_2_code 6 (some .long) ∈ q_W0 := List.mem_filter.mpr ⟨List.mem_append_right _ (List.mem_of_getElem? (i := 518) rfl), rfl⟩
theorem ww_306 : Cond.methodLink "SealedRecordsModel" 89 ym_Mo_mix ∈ q_W0 := List.mem_filter.mpr ⟨List.mem_append_right _ (List.mem_of_getElem? (i := 516) (by decide +kernel)), rfl⟩
theorem ww_307 : Cond.static ym_Mo_mix ∈ q_W0 := List.mem_filter.mpr ⟨List.mem_append_right _ (List.mem_of_getElem? (i := 517) (by decide +kernel)), rfl⟩
theorem ww_308 : Cond.constantLong "SealedRecordsModel" 99 5 ∈ q_W0 := List.mem_filter.mpr ⟨List.mem_append_right _ (List.mem_of_getElem? (i := 530) (by decide +kernel)), rfl⟩
theorem ww_309 : Cond.constantLong "SealedRecordsModel" 97 4 ∈ q_W0 := List.mem_filter.mpr ⟨List.mem_append_right _ (List.mem_of_getElem? (i := 529) (by decide +kernel)), rfl⟩
set_option maxRecDepth 100000 in
theorem ww_310 : Cond.code ym_Mo_alert prog_8_method_7_code 3 none ∈ q_W0 := List.mem_filter.mpr ⟨List.mem_append_right _ (List.mem_of_getElem? (i := 528) rfl), rfl⟩
theorem ww_311 : Cond.methodLink "SealedRecordsModel" 93 ym_Mo_alert ∈ q_W0 := List.mem_filter.mpr ⟨List.mem_append_right _ (List.mem_of_getElem? (i := 525) (by decide +kernel)), rfl⟩
theorem ww_312 : Cond.instanceMethod ym_Mo_alert ∈ q_W0 := List.mem_filter.mpr ⟨List.mem_append_right _ (List.mem_of_getElem? (i := 527) (by decide +kernel)), rfl⟩
set_option maxRecDepth 100000 in
theorem ww_313 : Cond.selects "SealedRecordsModel" ym_Mo_alert ym_Mo_alert ∈ q_W0 := List.mem_filter.mpr ⟨List.mem_append_left _ (List.mem_of_getElem? (i := 1) rfl), rfl⟩
theorem ww_314 : Cond.constantLong "SealedRecordsModel" 101 6 ∈ q_W0 := List.mem_filter.mpr ⟨List.mem_append_right _ (List.mem_of_getElem? (i := 539) (by decide +kernel)), rfl⟩
set_option maxRecDepth 100000 in
theorem ww_315 : Cond.code ym_Mo_change prog_8_method_8_code 2 none ∈ q_W0 := List.mem_filter.mpr ⟨List.mem_append_right _ (List.mem_of_getElem? (i := 538) rfl), rfl⟩
theorem ww_316 : Cond.methodLink "SealedRecordsModel" 103 ym_Mo_change ∈ q_W0 := List.mem_filter.mpr ⟨List.mem_append_right _ (List.mem_of_getElem? (i := 535) (by decide +kernel)), rfl⟩
theorem ww_317 : Cond.instanceMethod ym_Mo_change ∈ q_W0 := List.mem_filter.mpr ⟨List.mem_append_right _ (List.mem_of_getElem? (i := 537) (by decide +kernel)), rfl⟩
set_option maxRecDepth 100000 in
theorem ww_318 : Cond.selects "SealedRecordsModel" ym_Mo_change ym_Mo_change ∈ q_W0 := List.mem_filter.mpr ⟨List.mem_append_left _ (List.mem_of_getElem? (i := 2) rfl), rfl⟩
set_option maxRecDepth 100000 in
theorem ww_319 : Cond.code ym_Mo_isByte prog_8_method_4_code 1 (some .boolean) ∈ q_W0 := List.mem_filter.mpr ⟨List.mem_append_right _ (List.mem_of_getElem? (i := 546) rfl), rfl⟩
theorem ww_320 : Cond.methodLink "SealedRecordsModel" 107 ym_Mo_isByte ∈ q_W0 := List.mem_filter.mpr ⟨List.mem_append_right _ (List.mem_of_getElem? (i := 544) (by decide +kernel)), rfl⟩
theorem ww_321 : Cond.static ym_Mo_isByte ∈ q_W0 := List.mem_filter.mpr ⟨List.mem_append_right _ (List.mem_of_getElem? (i := 545) (by decide +kernel)), rfl⟩
theorem ww_322 : Cond.constantLong "SealedRecordsModel" 110 255 ∈ q_W0 := List.mem_filter.mpr ⟨List.mem_append_right _ (List.mem_of_getElem? (i := 559) (by decide +kernel)), rfl⟩
theorem ww_323 : Cond.constantLong "SealedRecordsModel" 112 2 ∈ q_W0 := List.mem_filter.mpr ⟨List.mem_append_right _ (List.mem_of_getElem? (i := 564) (by decide +kernel)), rfl⟩
set_option maxRecDepth 100000 in
theorem ww_324 : Cond.code ym_Mo_tag prog_8_method_12_code 7 (some .long) ∈ q_W0 := List.mem_filter.mpr ⟨List.mem_append_right _ (List.mem_of_getElem? (i := 563) rfl), rfl⟩
theorem ww_325 : Cond.methodLink "SealedRecordsModel" 122 ym_Mo_tag ∈ q_W0 := List.mem_filter.mpr ⟨List.mem_append_right _ (List.mem_of_getElem? (i := 560) (by decide +kernel)), rfl⟩
theorem ww_326 : Cond.instanceMethod ym_Mo_tag ∈ q_W0 := List.mem_filter.mpr ⟨List.mem_append_right _ (List.mem_of_getElem? (i := 562) (by decide +kernel)), rfl⟩
set_option maxRecDepth 100000 in
theorem ww_327 : Cond.selects "SealedRecordsModel" ym_Mo_tag ym_Mo_tag ∈ q_W0 := List.mem_filter.mpr ⟨List.mem_append_left _ (List.mem_of_getElem? (i := 5) rfl), rfl⟩
set_option maxRecDepth 100000 in
theorem ww_328 : Cond.code ym_Mo_stream prog_8_method_11_code 5 (some .int) ∈ q_W0 := List.mem_filter.mpr ⟨List.mem_append_right _ (List.mem_of_getElem? (i := 558) rfl), rfl⟩
theorem ww_329 : Cond.methodLink "SealedRecordsModel" 118 ym_Mo_stream ∈ q_W0 := List.mem_filter.mpr ⟨List.mem_append_right _ (List.mem_of_getElem? (i := 555) (by decide +kernel)), rfl⟩
theorem ww_330 : Cond.instanceMethod ym_Mo_stream ∈ q_W0 := List.mem_filter.mpr ⟨List.mem_append_right _ (List.mem_of_getElem? (i := 557) (by decide +kernel)), rfl⟩
set_option maxRecDepth 100000 in
theorem ww_331 : Cond.selects "SealedRecordsModel" ym_Mo_stream ym_Mo_stream ∈ q_W0 := List.mem_filter.mpr ⟨List.mem_append_left _ (List.mem_of_getElem? (i := 4) rfl), rfl⟩
set_option maxRecDepth 100000 in
theorem ww_332 : Cond.code ym_Mo_close prog_8_method_14_code 10 none ∈ q_W0 := List.mem_filter.mpr ⟨List.mem_append_right _ (List.mem_of_getElem? (i := 554) rfl), rfl⟩
theorem ww_333 : Cond.methodLink "SealedRecordsModel" 114 ym_Mo_close ∈ q_W0 := List.mem_filter.mpr ⟨List.mem_append_right _ (List.mem_of_getElem? (i := 551) (by decide +kernel)), rfl⟩
theorem ww_334 : Cond.instanceMethod ym_Mo_close ∈ q_W0 := List.mem_filter.mpr ⟨List.mem_append_right _ (List.mem_of_getElem? (i := 553) (by decide +kernel)), rfl⟩
set_option maxRecDepth 100000 in
theorem ww_335 : Cond.selects "SealedRecordsModel" ym_Mo_close ym_Mo_close ∈ q_W0 := List.mem_filter.mpr ⟨List.mem_append_left _ (List.mem_of_getElem? (i := 3) rfl), rfl⟩
set_option maxRecDepth 100000 in
theorem ww_336 : Cond.code ym_Mo_move prog_8_method_15_code 4 none ∈ q_W0 := List.mem_filter.mpr ⟨List.mem_append_right _ (List.mem_of_getElem? (i := 576) rfl), rfl⟩
theorem ww_337 : Cond.methodLink "SealedRecordsModel" 130 ym_Mo_move ∈ q_W0 := List.mem_filter.mpr ⟨List.mem_append_right _ (List.mem_of_getElem? (i := 573) (by decide +kernel)), rfl⟩
theorem ww_338 : Cond.instanceMethod ym_Mo_move ∈ q_W0 := List.mem_filter.mpr ⟨List.mem_append_right _ (List.mem_of_getElem? (i := 575) (by decide +kernel)), rfl⟩
set_option maxRecDepth 100000 in
theorem ww_339 : Cond.selects "SealedRecordsModel" ym_Mo_move ym_Mo_move ∈ q_W0 := List.mem_filter.mpr ⟨List.mem_append_left _ (List.mem_of_getElem? (i := 7) rfl), rfl⟩
set_option maxRecDepth 100000 in
theorem ww_340 : Cond.code ym_Mo_isRecord prog_8_method_16_code 3 (some .boolean) ∈ q_W0 := List.mem_filter.mpr ⟨List.mem_append_right _ (List.mem_of_getElem? (i := 572) rfl), rfl⟩
theorem ww_341 : Cond.methodLink "SealedRecordsModel" 126 ym_Mo_isRecord ∈ q_W0 := List.mem_filter.mpr ⟨List.mem_append_right _ (List.mem_of_getElem? (i := 569) (by decide +kernel)), rfl⟩
theorem ww_342 : Cond.instanceMethod ym_Mo_isRecord ∈ q_W0 := List.mem_filter.mpr ⟨List.mem_append_right _ (List.mem_of_getElem? (i := 571) (by decide +kernel)), rfl⟩
set_option maxRecDepth 100000 in
theorem ww_343 : Cond.selects "SealedRecordsModel" ym_Mo_isRecord ym_Mo_isRecord ∈ q_W0 := List.mem_filter.mpr ⟨List.mem_append_left _ (List.mem_of_getElem? (i := 6) rfl), rfl⟩
theorem ww_344 : Cond.fieldLink "SealedRecordsModel" 133 "SealedRecordsModel" "inner" "I" ∈ q_W0 := List.mem_filter.mpr ⟨List.mem_append_right _ (List.mem_of_getElem? (i := 442) (by decide +kernel)), rfl⟩
theorem ww_345 : Cond.fieldLink "SealedRecordsModel" 136 "SealedRecordsModel" "contentSize" "I" ∈ q_W0 := List.mem_filter.mpr ⟨List.mem_append_right _ (List.mem_of_getElem? (i := 443) (by decide +kernel)), rfl⟩
set_option maxRecDepth 100000 in
theorem ww_346 : Cond.code ym_Mo_lastEight prog_8_method_26_code 6 (some .long) ∈ q_W0 := List.mem_filter.mpr ⟨List.mem_append_right _ (List.mem_of_getElem? (i := 617) rfl), rfl⟩
theorem ww_347 : Cond.methodLink "SealedRecordsModel" 139 ym_Mo_lastEight ∈ q_W0 := List.mem_filter.mpr ⟨List.mem_append_right _ (List.mem_of_getElem? (i := 614) (by decide +kernel)), rfl⟩
theorem ww_348 : Cond.instanceMethod ym_Mo_lastEight ∈ q_W0 := List.mem_filter.mpr ⟨List.mem_append_right _ (List.mem_of_getElem? (i := 616) (by decide +kernel)), rfl⟩
set_option maxRecDepth 100000 in
theorem ww_349 : Cond.selects "SealedRecordsModel" ym_Mo_lastEight ym_Mo_lastEight ∈ q_W0 := List.mem_filter.mpr ⟨List.mem_append_left _ (List.mem_of_getElem? (i := 9) rfl), rfl⟩
theorem ww_350 : Cond.fieldLink "SealedRecordsModel" 152 "SealedRecordsModel" "rest" "I" ∈ q_W0 := List.mem_filter.mpr ⟨List.mem_append_right _ (List.mem_of_getElem? (i := 448) (by decide +kernel)), rfl⟩
theorem ww_351 : Cond.fieldLink "SealedRecordsModel" 143 "SealedRecordsModel" "changeEnd" "I" ∈ q_W0 := List.mem_filter.mpr ⟨List.mem_append_right _ (List.mem_of_getElem? (i := 445) (by decide +kernel)), rfl⟩
theorem ww_352 : Cond.fieldLink "SealedRecordsModel" 146 "SealedRecordsModel" "changeLength" "I" ∈ q_W0 := List.mem_filter.mpr ⟨List.mem_append_right _ (List.mem_of_getElem? (i := 446) (by decide +kernel)), rfl⟩
theorem ww_353 : Cond.fieldLink "SealedRecordsModel" 149 "SealedRecordsModel" "changeBody" "I" ∈ q_W0 := List.mem_filter.mpr ⟨List.mem_append_right _ (List.mem_of_getElem? (i := 447) (by decide +kernel)), rfl⟩
set_option maxRecDepth 100000 in
theorem ww_354 : Cond.code ym_Mo_read prog_8_method_27_code 8 none ∈ q_W0 := List.mem_filter.mpr ⟨List.mem_append_right _ (List.mem_of_getElem? (i := 625) rfl), rfl⟩
theorem ww_355 : Cond.methodLink "SealedRecordsModel" 155 ym_Mo_read ∈ q_W0 := List.mem_filter.mpr ⟨List.mem_append_right _ (List.mem_of_getElem? (i := 622) (by decide +kernel)), rfl⟩
theorem ww_356 : Cond.instanceMethod ym_Mo_read ∈ q_W0 := List.mem_filter.mpr ⟨List.mem_append_right _ (List.mem_of_getElem? (i := 624) (by decide +kernel)), rfl⟩
set_option maxRecDepth 100000 in
theorem ww_357 : Cond.selects "SealedRecordsModel" ym_Mo_read ym_Mo_read ∈ q_W0 := List.mem_filter.mpr ⟨List.mem_append_left _ (List.mem_of_getElem? (i := 11) rfl), rfl⟩
set_option maxRecDepth 100000 in
theorem ww_358 : Cond.code ym_Mo_keep prog_8_method_28_code 4 none ∈ q_W0 := List.mem_filter.mpr ⟨List.mem_append_right _ (List.mem_of_getElem? (i := 633) rfl), rfl⟩
theorem ww_359 : Cond.methodLink "SealedRecordsModel" 158 ym_Mo_keep ∈ q_W0 := List.mem_filter.mpr ⟨List.mem_append_right _ (List.mem_of_getElem? (i := 630) (by decide +kernel)), rfl⟩
theorem ww_360 : Cond.instanceMethod ym_Mo_keep ∈ q_W0 := List.mem_filter.mpr ⟨List.mem_append_right _ (List.mem_of_getElem? (i := 632) (by decide +kernel)), rfl⟩
set_option maxRecDepth 100000 in
theorem ww_361 : Cond.selects "SealedRecordsModel" ym_Mo_keep ym_Mo_keep ∈ q_W0 := List.mem_filter.mpr ⟨List.mem_append_left _ (List.mem_of_getElem? (i := 13) rfl), rfl⟩
set_option maxRecDepth 100000 in
theorem ww_362 : Cond.code ym_Mo_store prog_8_method_30_code 4 none ∈ q_W0 := List.mem_filter.mpr ⟨List.mem_append_right _ (List.mem_of_getElem? (i := 629) rfl), rfl⟩
theorem ww_363 : Cond.methodLink "SealedRecordsModel" 171 ym_Mo_store ∈ q_W0 := List.mem_filter.mpr ⟨List.mem_append_right _ (List.mem_of_getElem? (i := 626) (by decide +kernel)), rfl⟩
theorem ww_364 : Cond.instanceMethod ym_Mo_store ∈ q_W0 := List.mem_filter.mpr ⟨List.mem_append_right _ (List.mem_of_getElem? (i := 628) (by decide +kernel)), rfl⟩
set_option maxRecDepth 100000 in
theorem ww_365 : Cond.selects "SealedRecordsModel" ym_Mo_store ym_Mo_store ∈ q_W0 := List.mem_filter.mpr ⟨List.mem_append_left _ (List.mem_of_getElem? (i := 12) rfl), rfl⟩
set_option maxRecDepth 100000 in
theorem ww_366 : Cond.code ym_Mo_unseal prog_8_method_25_code 6 (some .int) ∈ q_W0 := List.mem_filter.mpr ⟨List.mem_append_right _ (List.mem_of_getElem? (i := 613) rfl), rfl⟩
theorem ww_367 : Cond.methodLink "SealedRecordsModel" 164 ym_Mo_unseal ∈ q_W0 := List.mem_filter.mpr ⟨List.mem_append_right _ (List.mem_of_getElem? (i := 610) (by decide +kernel)), rfl⟩
theorem ww_368 : Cond.instanceMethod ym_Mo_unseal ∈ q_W0 := List.mem_filter.mpr ⟨List.mem_append_right _ (List.mem_of_getElem? (i := 612) (by decide +kernel)), rfl⟩
set_option maxRecDepth 100000 in
theorem ww_369 : Cond.selects "SealedRecordsModel" ym_Mo_unseal ym_Mo_unseal ∈ q_W0 := List.mem_filter.mpr ⟨List.mem_append_left _ (List.mem_of_getElem? (i := 8) rfl), rfl⟩
set_option maxRecDepth 100000 in
theorem ww_370 : Cond.code ym_Mo_lose prog_8_method_17_code 4 (some .boolean) ∈ q_W0 := List.mem_filter.mpr ⟨List.mem_append_right _ (List.mem_of_getElem? (i := 568) rfl), rfl⟩
theorem ww_371 : Cond.methodLink "SealedRecordsModel" 161 ym_Mo_lose ∈ q_W0 := List.mem_filter.mpr ⟨List.mem_append_right _ (List.mem_of_getElem? (i := 609) (by decide +kernel)), rfl⟩
theorem ww_372 : Cond.instanceMethod ym_Mo_lose ∈ q_W0 := List.mem_filter.mpr ⟨List.mem_append_right _ (List.mem_of_getElem? (i := 566) (by decide +kernel)), rfl⟩
set_option maxRecDepth 100000 in
theorem ww_373 : Cond.selects "SealedRecordsModel" ym_Mo_lose ym_Mo_lose ∈ q_W0 := List.mem_filter.mpr ⟨List.mem_append_right _ (List.mem_of_getElem? (i := 567) (by decide +kernel)), rfl⟩
set_option maxRecDepth 100000 in
theorem ww_374 : Cond.code ym_Mo_judge prog_8_method_29_code 3 (some .int) ∈ q_W0 := List.mem_filter.mpr ⟨List.mem_append_right _ (List.mem_of_getElem? (i := 621) rfl), rfl⟩
theorem ww_375 : Cond.methodLink "SealedRecordsModel" 167 ym_Mo_judge ∈ q_W0 := List.mem_filter.mpr ⟨List.mem_append_right _ (List.mem_of_getElem? (i := 618) (by decide +kernel)), rfl⟩
theorem ww_376 : Cond.instanceMethod ym_Mo_judge ∈ q_W0 := List.mem_filter.mpr ⟨List.mem_append_right _ (List.mem_of_getElem? (i := 620) (by decide +kernel)), rfl⟩
set_option maxRecDepth 100000 in
theorem ww_377 : Cond.selects "SealedRecordsModel" ym_Mo_judge ym_Mo_judge ∈ q_W0 := List.mem_filter.mpr ⟨List.mem_append_left _ (List.mem_of_getElem? (i := 10) rfl), rfl⟩
set_option maxRecDepth 100000 in
theorem ww_378 : Cond.code ym_Mo_key prog_8_method_6_code 4 (some .int) ∈ q_W0 := List.mem_filter.mpr ⟨List.mem_append_right _ (List.mem_of_getElem? (i := 524) rfl), rfl⟩
theorem ww_379 : Cond.methodLink "SealedRecordsLaw" 32 ym_Mo_key ∈ q_W0 := List.mem_filter.mpr ⟨List.mem_append_right _ (List.mem_of_getElem? (i := 521) (by decide +kernel)), rfl⟩
theorem ww_380 : Cond.instanceMethod ym_Mo_key ∈ q_W0 := List.mem_filter.mpr ⟨List.mem_append_right _ (List.mem_of_getElem? (i := 522) (by decide +kernel)), rfl⟩
set_option maxRecDepth 100000 in
theorem ww_381 : Cond.selects "SealedRecordsModel" ym_Mo_key ym_Mo_key ∈ q_W0 := List.mem_filter.mpr ⟨List.mem_append_right _ (List.mem_of_getElem? (i := 523) (by decide +kernel)), rfl⟩
set_option maxRecDepth 100000 in
theorem ww_382 : Cond.code ym_SR_key prog_1_method_3_code 5 (some .int) ∈ q_W0 := List.mem_filter.mpr ⟨List.mem_append_right _ (List.mem_of_getElem? (i := 179) rfl), rfl⟩
theorem ww_383 : Cond.methodLink "SealedRecordsLaw" 28 ym_SR_key ∈ q_W0 := List.mem_filter.mpr ⟨List.mem_append_right _ (List.mem_of_getElem? (i := 176) (by decide +kernel)), rfl⟩
theorem ww_384 : Cond.instanceMethod ym_SR_key ∈ q_W0 := List.mem_filter.mpr ⟨List.mem_append_right _ (List.mem_of_getElem? (i := 177) (by decide +kernel)), rfl⟩
set_option maxRecDepth 100000 in
theorem ww_385 : Cond.selects "SealedRecords" ym_SR_key ym_SR_key ∈ q_W0 := List.mem_filter.mpr ⟨List.mem_append_right _ (List.mem_of_getElem? (i := 178) (by decide +kernel)), rfl⟩
theorem ww_386 : Cond.constantLong "SealedRecordsLaw" 21 4294967295 ∈ q_W0 := List.mem_filter.mpr ⟨List.mem_append_right _ (List.mem_of_getElem? (i := 650) (by decide +kernel)), rfl⟩
set_option maxRecDepth 100000 in
theorem ww_387 : Cond.code ym_SR_secret prog_1_method_2_code 5 (some .boolean) ∈ q_W0 := List.mem_filter.mpr ⟨List.mem_append_right _ (List.mem_of_getElem? (i := 166) rfl), rfl⟩
theorem ww_388 : Cond.methodLink "SealedRecordsLaw" 23 ym_SR_secret ∈ q_W0 := List.mem_filter.mpr ⟨List.mem_append_right _ (List.mem_of_getElem? (i := 163) (by decide +kernel)), rfl⟩
theorem ww_389 : Cond.instanceMethod ym_SR_secret ∈ q_W0 := List.mem_filter.mpr ⟨List.mem_append_right _ (List.mem_of_getElem? (i := 164) (by decide +kernel)), rfl⟩
set_option maxRecDepth 100000 in
theorem ww_390 : Cond.selects "SealedRecords" ym_SR_secret ym_SR_secret ∈ q_W0 := List.mem_filter.mpr ⟨List.mem_append_right _ (List.mem_of_getElem? (i := 165) (by decide +kernel)), rfl⟩
set_option maxRecDepth 100000 in
theorem ww_391 : Cond.code ym_Mo_secret prog_8_method_5_code 6 (some .boolean) ∈ q_W0 := List.mem_filter.mpr ⟨List.mem_append_right _ (List.mem_of_getElem? (i := 511) rfl), rfl⟩
theorem ww_392 : Cond.methodLink "SealedRecordsLaw" 27 ym_Mo_secret ∈ q_W0 := List.mem_filter.mpr ⟨List.mem_append_right _ (List.mem_of_getElem? (i := 508) (by decide +kernel)), rfl⟩
theorem ww_393 : Cond.instanceMethod ym_Mo_secret ∈ q_W0 := List.mem_filter.mpr ⟨List.mem_append_right _ (List.mem_of_getElem? (i := 509) (by decide +kernel)), rfl⟩
set_option maxRecDepth 100000 in
theorem ww_394 : Cond.selects "SealedRecordsModel" ym_Mo_secret ym_Mo_secret ∈ q_W0 := List.mem_filter.mpr ⟨List.mem_append_right _ (List.mem_of_getElem? (i := 510) (by decide +kernel)), rfl⟩
set_option maxRecDepth 100000 in
theorem ww_395 : Cond.code ym_SR_advance prog_1_method_4_code 3 (some .boolean) ∈ q_W0 := List.mem_filter.mpr ⟨List.mem_append_right _ (List.mem_of_getElem? (i := 208) rfl), rfl⟩
theorem ww_396 : Cond.methodLink "SealedRecordsLaw" 33 ym_SR_advance ∈ q_W0 := List.mem_filter.mpr ⟨List.mem_append_right _ (List.mem_of_getElem? (i := 205) (by decide +kernel)), rfl⟩
theorem ww_397 : Cond.instanceMethod ym_SR_advance ∈ q_W0 := List.mem_filter.mpr ⟨List.mem_append_right _ (List.mem_of_getElem? (i := 206) (by decide +kernel)), rfl⟩
set_option maxRecDepth 100000 in
theorem ww_398 : Cond.selects "SealedRecords" ym_SR_advance ym_SR_advance ∈ q_W0 := List.mem_filter.mpr ⟨List.mem_append_right _ (List.mem_of_getElem? (i := 207) (by decide +kernel)), rfl⟩
set_option maxRecDepth 100000 in
theorem ww_399 : Cond.code ym_Mo_advance prog_8_method_9_code 2 (some .boolean) ∈ q_W0 := List.mem_filter.mpr ⟨List.mem_append_right _ (List.mem_of_getElem? (i := 534) rfl), rfl⟩
theorem ww_400 : Cond.methodLink "SealedRecordsLaw" 37 ym_Mo_advance ∈ q_W0 := List.mem_filter.mpr ⟨List.mem_append_right _ (List.mem_of_getElem? (i := 531) (by decide +kernel)), rfl⟩
theorem ww_401 : Cond.instanceMethod ym_Mo_advance ∈ q_W0 := List.mem_filter.mpr ⟨List.mem_append_right _ (List.mem_of_getElem? (i := 532) (by decide +kernel)), rfl⟩
set_option maxRecDepth 100000 in
theorem ww_402 : Cond.selects "SealedRecordsModel" ym_Mo_advance ym_Mo_advance ∈ q_W0 := List.mem_filter.mpr ⟨List.mem_append_right _ (List.mem_of_getElem? (i := 533) (by decide +kernel)), rfl⟩
set_option maxRecDepth 100000 in
theorem ww_403 : Cond.code ym_SR_write prog_1_method_5_code 3 (some .boolean) ∈ q_W0 := List.mem_filter.mpr ⟨List.mem_append_right _ (List.mem_of_getElem? (i := 219) rfl), rfl⟩
theorem ww_404 : Cond.methodLink "SealedRecordsLaw" 38 ym_SR_write ∈ q_W0 := List.mem_filter.mpr ⟨List.mem_append_right _ (List.mem_of_getElem? (i := 216) (by decide +kernel)), rfl⟩
theorem ww_405 : Cond.instanceMethod ym_SR_write ∈ q_W0 := List.mem_filter.mpr ⟨List.mem_append_right _ (List.mem_of_getElem? (i := 217) (by decide +kernel)), rfl⟩
set_option maxRecDepth 100000 in
theorem ww_406 : Cond.selects "SealedRecords" ym_SR_write ym_SR_write ∈ q_W0 := List.mem_filter.mpr ⟨List.mem_append_right _ (List.mem_of_getElem? (i := 218) (by decide +kernel)), rfl⟩
set_option maxRecDepth 100000 in
theorem ww_407 : Cond.code ym_Mo_write prog_8_method_10_code 3 (some .boolean) ∈ q_W0 := List.mem_filter.mpr ⟨List.mem_append_right _ (List.mem_of_getElem? (i := 543) rfl), rfl⟩
theorem ww_408 : Cond.methodLink "SealedRecordsLaw" 42 ym_Mo_write ∈ q_W0 := List.mem_filter.mpr ⟨List.mem_append_right _ (List.mem_of_getElem? (i := 540) (by decide +kernel)), rfl⟩
theorem ww_409 : Cond.instanceMethod ym_Mo_write ∈ q_W0 := List.mem_filter.mpr ⟨List.mem_append_right _ (List.mem_of_getElem? (i := 541) (by decide +kernel)), rfl⟩
set_option maxRecDepth 100000 in
theorem ww_410 : Cond.selects "SealedRecordsModel" ym_Mo_write ym_Mo_write ∈ q_W0 := List.mem_filter.mpr ⟨List.mem_append_right _ (List.mem_of_getElem? (i := 542) (by decide +kernel)), rfl⟩
set_option maxRecDepth 100000 in
theorem ww_411 : Cond.code ym_SR_seal prog_1_method_6_code 7 (some .int) ∈ q_W0 := List.mem_filter.mpr ⟨List.mem_append_right _ (List.mem_of_getElem? (i := 234) rfl), rfl⟩
theorem ww_412 : Cond.methodLink "SealedRecordsLaw" 43 ym_SR_seal ∈ q_W0 := List.mem_filter.mpr ⟨List.mem_append_right _ (List.mem_of_getElem? (i := 231) (by decide +kernel)), rfl⟩
theorem ww_413 : Cond.instanceMethod ym_SR_seal ∈ q_W0 := List.mem_filter.mpr ⟨List.mem_append_right _ (List.mem_of_getElem? (i := 232) (by decide +kernel)), rfl⟩
set_option maxRecDepth 100000 in
theorem ww_414 : Cond.selects "SealedRecords" ym_SR_seal ym_SR_seal ∈ q_W0 := List.mem_filter.mpr ⟨List.mem_append_right _ (List.mem_of_getElem? (i := 233) (by decide +kernel)), rfl⟩
set_option maxRecDepth 100000 in
theorem ww_415 : Cond.code ym_Mo_seal prog_8_method_13_code 8 (some .int) ∈ q_W0 := List.mem_filter.mpr ⟨List.mem_append_right _ (List.mem_of_getElem? (i := 550) rfl), rfl⟩
theorem ww_416 : Cond.methodLink "SealedRecordsLaw" 47 ym_Mo_seal ∈ q_W0 := List.mem_filter.mpr ⟨List.mem_append_right _ (List.mem_of_getElem? (i := 547) (by decide +kernel)), rfl⟩
theorem ww_417 : Cond.instanceMethod ym_Mo_seal ∈ q_W0 := List.mem_filter.mpr ⟨List.mem_append_right _ (List.mem_of_getElem? (i := 548) (by decide +kernel)), rfl⟩
set_option maxRecDepth 100000 in
theorem ww_418 : Cond.selects "SealedRecordsModel" ym_Mo_seal ym_Mo_seal ∈ q_W0 := List.mem_filter.mpr ⟨List.mem_append_right _ (List.mem_of_getElem? (i := 549) (by decide +kernel)), rfl⟩
set_option maxRecDepth 100000 in
theorem ww_419 : Cond.code ym_SR_deliver prog_1_method_7_code 3 (some .int) ∈ q_W0 := List.mem_filter.mpr ⟨List.mem_append_right _ (List.mem_of_getElem? (i := 284) rfl), rfl⟩
theorem ww_420 : Cond.methodLink "SealedRecordsLaw" 48 ym_SR_deliver ∈ q_W0 := List.mem_filter.mpr ⟨List.mem_append_right _ (List.mem_of_getElem? (i := 281) (by decide +kernel)), rfl⟩
theorem ww_421 : Cond.instanceMethod ym_SR_deliver ∈ q_W0 := List.mem_filter.mpr ⟨List.mem_append_right _ (List.mem_of_getElem? (i := 282) (by decide +kernel)), rfl⟩
set_option maxRecDepth 100000 in
theorem ww_422 : Cond.selects "SealedRecords" ym_SR_deliver ym_SR_deliver ∈ q_W0 := List.mem_filter.mpr ⟨List.mem_append_right _ (List.mem_of_getElem? (i := 283) (by decide +kernel)), rfl⟩
set_option maxRecDepth 100000 in
theorem ww_423 : Cond.code ym_Mo_deliver prog_8_method_31_code 3 (some .int) ∈ q_W0 := List.mem_filter.mpr ⟨List.mem_append_right _ (List.mem_of_getElem? (i := 608) rfl), rfl⟩
theorem ww_424 : Cond.methodLink "SealedRecordsLaw" 52 ym_Mo_deliver ∈ q_W0 := List.mem_filter.mpr ⟨List.mem_append_right _ (List.mem_of_getElem? (i := 605) (by decide +kernel)), rfl⟩
theorem ww_425 : Cond.instanceMethod ym_Mo_deliver ∈ q_W0 := List.mem_filter.mpr ⟨List.mem_append_right _ (List.mem_of_getElem? (i := 606) (by decide +kernel)), rfl⟩
set_option maxRecDepth 100000 in
theorem ww_426 : Cond.selects "SealedRecordsModel" ym_Mo_deliver ym_Mo_deliver ∈ q_W0 := List.mem_filter.mpr ⟨List.mem_append_right _ (List.mem_of_getElem? (i := 607) (by decide +kernel)), rfl⟩
set_option maxRecDepth 100000 in
theorem ww_427 : Cond.code ym_SR_alter prog_1_method_8_code 6 (some .boolean) ∈ q_W0 := List.mem_filter.mpr ⟨List.mem_append_right _ (List.mem_of_getElem? (i := 358) rfl), rfl⟩
theorem ww_428 : Cond.methodLink "SealedRecordsLaw" 53 ym_SR_alter ∈ q_W0 := List.mem_filter.mpr ⟨List.mem_append_right _ (List.mem_of_getElem? (i := 355) (by decide +kernel)), rfl⟩
theorem ww_429 : Cond.instanceMethod ym_SR_alter ∈ q_W0 := List.mem_filter.mpr ⟨List.mem_append_right _ (List.mem_of_getElem? (i := 356) (by decide +kernel)), rfl⟩
set_option maxRecDepth 100000 in
theorem ww_430 : Cond.selects "SealedRecords" ym_SR_alter ym_SR_alter ∈ q_W0 := List.mem_filter.mpr ⟨List.mem_append_right _ (List.mem_of_getElem? (i := 357) (by decide +kernel)), rfl⟩
set_option maxRecDepth 100000 in
theorem ww_431 : Cond.code ym_Mo_alter prog_8_method_18_code 5 (some .boolean) ∈ q_W0 := List.mem_filter.mpr ⟨List.mem_append_right _ (List.mem_of_getElem? (i := 580) rfl), rfl⟩
theorem ww_432 : Cond.methodLink "SealedRecordsLaw" 57 ym_Mo_alter ∈ q_W0 := List.mem_filter.mpr ⟨List.mem_append_right _ (List.mem_of_getElem? (i := 577) (by decide +kernel)), rfl⟩
theorem ww_433 : Cond.instanceMethod ym_Mo_alter ∈ q_W0 := List.mem_filter.mpr ⟨List.mem_append_right _ (List.mem_of_getElem? (i := 578) (by decide +kernel)), rfl⟩
set_option maxRecDepth 100000 in
theorem ww_434 : Cond.selects "SealedRecordsModel" ym_Mo_alter ym_Mo_alter ∈ q_W0 := List.mem_filter.mpr ⟨List.mem_append_right _ (List.mem_of_getElem? (i := 579) (by decide +kernel)), rfl⟩
set_option maxRecDepth 100000 in
theorem ww_435 : Cond.code ym_SR_cut prog_1_method_9_code 3 (some .boolean) ∈ q_W0 := List.mem_filter.mpr ⟨List.mem_append_right _ (List.mem_of_getElem? (i := 366) rfl), rfl⟩
theorem ww_436 : Cond.methodLink "SealedRecordsLaw" 58 ym_SR_cut ∈ q_W0 := List.mem_filter.mpr ⟨List.mem_append_right _ (List.mem_of_getElem? (i := 363) (by decide +kernel)), rfl⟩
theorem ww_437 : Cond.instanceMethod ym_SR_cut ∈ q_W0 := List.mem_filter.mpr ⟨List.mem_append_right _ (List.mem_of_getElem? (i := 364) (by decide +kernel)), rfl⟩
set_option maxRecDepth 100000 in
theorem ww_438 : Cond.selects "SealedRecords" ym_SR_cut ym_SR_cut ∈ q_W0 := List.mem_filter.mpr ⟨List.mem_append_right _ (List.mem_of_getElem? (i := 365) (by decide +kernel)), rfl⟩
set_option maxRecDepth 100000 in
theorem ww_439 : Cond.code ym_Mo_cut prog_8_method_19_code 3 (some .boolean) ∈ q_W0 := List.mem_filter.mpr ⟨List.mem_append_right _ (List.mem_of_getElem? (i := 584) rfl), rfl⟩
theorem ww_440 : Cond.methodLink "SealedRecordsLaw" 61 ym_Mo_cut ∈ q_W0 := List.mem_filter.mpr ⟨List.mem_append_right _ (List.mem_of_getElem? (i := 581) (by decide +kernel)), rfl⟩
theorem ww_441 : Cond.instanceMethod ym_Mo_cut ∈ q_W0 := List.mem_filter.mpr ⟨List.mem_append_right _ (List.mem_of_getElem? (i := 582) (by decide +kernel)), rfl⟩
set_option maxRecDepth 100000 in
theorem ww_442 : Cond.selects "SealedRecordsModel" ym_Mo_cut ym_Mo_cut ∈ q_W0 := List.mem_filter.mpr ⟨List.mem_append_right _ (List.mem_of_getElem? (i := 583) (by decide +kernel)), rfl⟩
set_option maxRecDepth 100000 in
theorem ww_443 : Cond.code ym_SR_lose prog_1_method_10_code 3 (some .boolean) ∈ q_W0 := List.mem_filter.mpr ⟨List.mem_append_right _ (List.mem_of_getElem? (i := 370) rfl), rfl⟩
theorem ww_444 : Cond.methodLink "SealedRecordsLaw" 62 ym_SR_lose ∈ q_W0 := List.mem_filter.mpr ⟨List.mem_append_right _ (List.mem_of_getElem? (i := 367) (by decide +kernel)), rfl⟩
theorem ww_445 : Cond.instanceMethod ym_SR_lose ∈ q_W0 := List.mem_filter.mpr ⟨List.mem_append_right _ (List.mem_of_getElem? (i := 368) (by decide +kernel)), rfl⟩
set_option maxRecDepth 100000 in
theorem ww_446 : Cond.selects "SealedRecords" ym_SR_lose ym_SR_lose ∈ q_W0 := List.mem_filter.mpr ⟨List.mem_append_right _ (List.mem_of_getElem? (i := 369) (by decide +kernel)), rfl⟩
theorem ww_447 : Cond.methodLink "SealedRecordsLaw" 65 ym_Mo_lose ∈ q_W0 := List.mem_filter.mpr ⟨List.mem_append_right _ (List.mem_of_getElem? (i := 565) (by decide +kernel)), rfl⟩
set_option maxRecDepth 100000 in
theorem ww_448 : Cond.code ym_SR_copy prog_1_method_11_code 4 (some .boolean) ∈ q_W0 := List.mem_filter.mpr ⟨List.mem_append_right _ (List.mem_of_getElem? (i := 374) rfl), rfl⟩
theorem ww_449 : Cond.methodLink "SealedRecordsLaw" 66 ym_SR_copy ∈ q_W0 := List.mem_filter.mpr ⟨List.mem_append_right _ (List.mem_of_getElem? (i := 371) (by decide +kernel)), rfl⟩
theorem ww_450 : Cond.instanceMethod ym_SR_copy ∈ q_W0 := List.mem_filter.mpr ⟨List.mem_append_right _ (List.mem_of_getElem? (i := 372) (by decide +kernel)), rfl⟩
set_option maxRecDepth 100000 in
theorem ww_451 : Cond.selects "SealedRecords" ym_SR_copy ym_SR_copy ∈ q_W0 := List.mem_filter.mpr ⟨List.mem_append_right _ (List.mem_of_getElem? (i := 373) (by decide +kernel)), rfl⟩
set_option maxRecDepth 100000 in
theorem ww_452 : Cond.code ym_Mo_copy prog_8_method_20_code 3 (some .boolean) ∈ q_W0 := List.mem_filter.mpr ⟨List.mem_append_right _ (List.mem_of_getElem? (i := 588) rfl), rfl⟩
theorem ww_453 : Cond.methodLink "SealedRecordsLaw" 69 ym_Mo_copy ∈ q_W0 := List.mem_filter.mpr ⟨List.mem_append_right _ (List.mem_of_getElem? (i := 585) (by decide +kernel)), rfl⟩
theorem ww_454 : Cond.instanceMethod ym_Mo_copy ∈ q_W0 := List.mem_filter.mpr ⟨List.mem_append_right _ (List.mem_of_getElem? (i := 586) (by decide +kernel)), rfl⟩
set_option maxRecDepth 100000 in
theorem ww_455 : Cond.selects "SealedRecordsModel" ym_Mo_copy ym_Mo_copy ∈ q_W0 := List.mem_filter.mpr ⟨List.mem_append_right _ (List.mem_of_getElem? (i := 587) (by decide +kernel)), rfl⟩
set_option maxRecDepth 100000 in
theorem ww_456 : Cond.code ym_SR_swap prog_1_method_12_code 5 (some .boolean) ∈ q_W0 := List.mem_filter.mpr ⟨List.mem_append_right _ (List.mem_of_getElem? (i := 379) rfl), rfl⟩
theorem ww_457 : Cond.methodLink "SealedRecordsLaw" 70 ym_SR_swap ∈ q_W0 := List.mem_filter.mpr ⟨List.mem_append_right _ (List.mem_of_getElem? (i := 376) (by decide +kernel)), rfl⟩
theorem ww_458 : Cond.instanceMethod ym_SR_swap ∈ q_W0 := List.mem_filter.mpr ⟨List.mem_append_right _ (List.mem_of_getElem? (i := 377) (by decide +kernel)), rfl⟩
set_option maxRecDepth 100000 in
theorem ww_459 : Cond.selects "SealedRecords" ym_SR_swap ym_SR_swap ∈ q_W0 := List.mem_filter.mpr ⟨List.mem_append_right _ (List.mem_of_getElem? (i := 378) (by decide +kernel)), rfl⟩
set_option maxRecDepth 100000 in
theorem ww_460 : Cond.code ym_Mo_swap prog_8_method_21_code 6 (some .boolean) ∈ q_W0 := List.mem_filter.mpr ⟨List.mem_append_right _ (List.mem_of_getElem? (i := 592) rfl), rfl⟩
theorem ww_461 : Cond.methodLink "SealedRecordsLaw" 73 ym_Mo_swap ∈ q_W0 := List.mem_filter.mpr ⟨List.mem_append_right _ (List.mem_of_getElem? (i := 589) (by decide +kernel)), rfl⟩
theorem ww_462 : Cond.instanceMethod ym_Mo_swap ∈ q_W0 := List.mem_filter.mpr ⟨List.mem_append_right _ (List.mem_of_getElem? (i := 590) (by decide +kernel)), rfl⟩
set_option maxRecDepth 100000 in
theorem ww_463 : Cond.selects "SealedRecordsModel" ym_Mo_swap ym_Mo_swap ∈ q_W0 := List.mem_filter.mpr ⟨List.mem_append_right _ (List.mem_of_getElem? (i := 591) (by decide +kernel)), rfl⟩
set_option maxRecDepth 100000 in
theorem ww_464 : Cond.code ym_SR_inject prog_1_method_13_code 7 (some .boolean) ∈ q_W0 := List.mem_filter.mpr ⟨List.mem_append_right _ (List.mem_of_getElem? (i := 383) rfl), rfl⟩
theorem ww_465 : Cond.methodLink "SealedRecordsLaw" 74 ym_SR_inject ∈ q_W0 := List.mem_filter.mpr ⟨List.mem_append_right _ (List.mem_of_getElem? (i := 380) (by decide +kernel)), rfl⟩
theorem ww_466 : Cond.instanceMethod ym_SR_inject ∈ q_W0 := List.mem_filter.mpr ⟨List.mem_append_right _ (List.mem_of_getElem? (i := 381) (by decide +kernel)), rfl⟩
set_option maxRecDepth 100000 in
theorem ww_467 : Cond.selects "SealedRecords" ym_SR_inject ym_SR_inject ∈ q_W0 := List.mem_filter.mpr ⟨List.mem_append_right _ (List.mem_of_getElem? (i := 382) (by decide +kernel)), rfl⟩
set_option maxRecDepth 100000 in
theorem ww_468 : Cond.code ym_Mo_inject prog_8_method_22_code 7 (some .boolean) ∈ q_W0 := List.mem_filter.mpr ⟨List.mem_append_right _ (List.mem_of_getElem? (i := 596) rfl), rfl⟩
theorem ww_469 : Cond.methodLink "SealedRecordsLaw" 77 ym_Mo_inject ∈ q_W0 := List.mem_filter.mpr ⟨List.mem_append_right _ (List.mem_of_getElem? (i := 593) (by decide +kernel)), rfl⟩
theorem ww_470 : Cond.instanceMethod ym_Mo_inject ∈ q_W0 := List.mem_filter.mpr ⟨List.mem_append_right _ (List.mem_of_getElem? (i := 594) (by decide +kernel)), rfl⟩
set_option maxRecDepth 100000 in
theorem ww_471 : Cond.selects "SealedRecordsModel" ym_Mo_inject ym_Mo_inject ∈ q_W0 := List.mem_filter.mpr ⟨List.mem_append_right _ (List.mem_of_getElem? (i := 595) (by decide +kernel)), rfl⟩
set_option maxRecDepth 100000 in
theorem ww_472 : Cond.code ym_SR_waiting prog_1_method_14_code 2 (some .int) ∈ q_W0 := List.mem_filter.mpr ⟨List.mem_append_right _ (List.mem_of_getElem? (i := 388) rfl), rfl⟩
theorem ww_473 : Cond.methodLink "SealedRecordsLaw" 78 ym_SR_waiting ∈ q_W0 := List.mem_filter.mpr ⟨List.mem_append_right _ (List.mem_of_getElem? (i := 385) (by decide +kernel)), rfl⟩
theorem ww_474 : Cond.instanceMethod ym_SR_waiting ∈ q_W0 := List.mem_filter.mpr ⟨List.mem_append_right _ (List.mem_of_getElem? (i := 386) (by decide +kernel)), rfl⟩
set_option maxRecDepth 100000 in
theorem ww_475 : Cond.selects "SealedRecords" ym_SR_waiting ym_SR_waiting ∈ q_W0 := List.mem_filter.mpr ⟨List.mem_append_right _ (List.mem_of_getElem? (i := 387) (by decide +kernel)), rfl⟩
set_option maxRecDepth 100000 in
theorem ww_476 : Cond.code ym_Mo_waiting prog_8_method_23_code 2 (some .int) ∈ q_W0 := List.mem_filter.mpr ⟨List.mem_append_right _ (List.mem_of_getElem? (i := 600) rfl), rfl⟩
theorem ww_477 : Cond.methodLink "SealedRecordsLaw" 81 ym_Mo_waiting ∈ q_W0 := List.mem_filter.mpr ⟨List.mem_append_right _ (List.mem_of_getElem? (i := 597) (by decide +kernel)), rfl⟩
theorem ww_478 : Cond.instanceMethod ym_Mo_waiting ∈ q_W0 := List.mem_filter.mpr ⟨List.mem_append_right _ (List.mem_of_getElem? (i := 598) (by decide +kernel)), rfl⟩
set_option maxRecDepth 100000 in
theorem ww_479 : Cond.selects "SealedRecordsModel" ym_Mo_waiting ym_Mo_waiting ∈ q_W0 := List.mem_filter.mpr ⟨List.mem_append_right _ (List.mem_of_getElem? (i := 599) (by decide +kernel)), rfl⟩
set_option maxRecDepth 100000 in
theorem ww_480 : Cond.code ym_SR_wire prog_1_method_15_code 5 (some .int) ∈ q_W0 := List.mem_filter.mpr ⟨List.mem_append_right _ (List.mem_of_getElem? (i := 392) rfl), rfl⟩
theorem ww_481 : Cond.methodLink "SealedRecordsLaw" 82 ym_SR_wire ∈ q_W0 := List.mem_filter.mpr ⟨List.mem_append_right _ (List.mem_of_getElem? (i := 389) (by decide +kernel)), rfl⟩
theorem ww_482 : Cond.instanceMethod ym_SR_wire ∈ q_W0 := List.mem_filter.mpr ⟨List.mem_append_right _ (List.mem_of_getElem? (i := 390) (by decide +kernel)), rfl⟩
set_option maxRecDepth 100000 in
theorem ww_483 : Cond.selects "SealedRecords" ym_SR_wire ym_SR_wire ∈ q_W0 := List.mem_filter.mpr ⟨List.mem_append_right _ (List.mem_of_getElem? (i := 391) (by decide +kernel)), rfl⟩
set_option maxRecDepth 100000 in
theorem ww_484 : Cond.code ym_Mo_wire prog_8_method_24_code 5 (some .int) ∈ q_W0 := List.mem_filter.mpr ⟨List.mem_append_right _ (List.mem_of_getElem? (i := 604) rfl), rfl⟩
theorem ww_485 : Cond.methodLink "SealedRecordsLaw" 85 ym_Mo_wire ∈ q_W0 := List.mem_filter.mpr ⟨List.mem_append_right _ (List.mem_of_getElem? (i := 601) (by decide +kernel)), rfl⟩
theorem ww_486 : Cond.instanceMethod ym_Mo_wire ∈ q_W0 := List.mem_filter.mpr ⟨List.mem_append_right _ (List.mem_of_getElem? (i := 602) (by decide +kernel)), rfl⟩
set_option maxRecDepth 100000 in
theorem ww_487 : Cond.selects "SealedRecordsModel" ym_Mo_wire ym_Mo_wire ∈ q_W0 := List.mem_filter.mpr ⟨List.mem_append_right _ (List.mem_of_getElem? (i := 603) (by decide +kernel)), rfl⟩
set_option maxRecDepth 100000 in
theorem ww_488 : Cond.code ym_SR_items prog_1_method_16_code 2 (some .int) ∈ q_W0 := List.mem_filter.mpr ⟨List.mem_append_right _ (List.mem_of_getElem? (i := 396) rfl), rfl⟩
theorem ww_489 : Cond.methodLink "SealedRecordsLaw" 86 ym_SR_items ∈ q_W0 := List.mem_filter.mpr ⟨List.mem_append_right _ (List.mem_of_getElem? (i := 393) (by decide +kernel)), rfl⟩
theorem ww_490 : Cond.instanceMethod ym_SR_items ∈ q_W0 := List.mem_filter.mpr ⟨List.mem_append_right _ (List.mem_of_getElem? (i := 394) (by decide +kernel)), rfl⟩
set_option maxRecDepth 100000 in
theorem ww_491 : Cond.selects "SealedRecords" ym_SR_items ym_SR_items ∈ q_W0 := List.mem_filter.mpr ⟨List.mem_append_right _ (List.mem_of_getElem? (i := 395) (by decide +kernel)), rfl⟩
set_option maxRecDepth 100000 in
theorem ww_492 : Cond.code ym_Mo_items prog_8_method_32_code 2 (some .int) ∈ q_W0 := List.mem_filter.mpr ⟨List.mem_append_right _ (List.mem_of_getElem? (i := 637) rfl), rfl⟩
theorem ww_493 : Cond.methodLink "SealedRecordsLaw" 89 ym_Mo_items ∈ q_W0 := List.mem_filter.mpr ⟨List.mem_append_right _ (List.mem_of_getElem? (i := 634) (by decide +kernel)), rfl⟩
theorem ww_494 : Cond.instanceMethod ym_Mo_items ∈ q_W0 := List.mem_filter.mpr ⟨List.mem_append_right _ (List.mem_of_getElem? (i := 635) (by decide +kernel)), rfl⟩
set_option maxRecDepth 100000 in
theorem ww_495 : Cond.selects "SealedRecordsModel" ym_Mo_items ym_Mo_items ∈ q_W0 := List.mem_filter.mpr ⟨List.mem_append_right _ (List.mem_of_getElem? (i := 636) (by decide +kernel)), rfl⟩
set_option maxRecDepth 100000 in
theorem ww_496 : Cond.code ym_SR_item prog_1_method_17_code 4 (some .int) ∈ q_W0 := List.mem_filter.mpr ⟨List.mem_append_right _ (List.mem_of_getElem? (i := 400) rfl), rfl⟩
theorem ww_497 : Cond.methodLink "SealedRecordsLaw" 90 ym_SR_item ∈ q_W0 := List.mem_filter.mpr ⟨List.mem_append_right _ (List.mem_of_getElem? (i := 397) (by decide +kernel)), rfl⟩
theorem ww_498 : Cond.instanceMethod ym_SR_item ∈ q_W0 := List.mem_filter.mpr ⟨List.mem_append_right _ (List.mem_of_getElem? (i := 398) (by decide +kernel)), rfl⟩
set_option maxRecDepth 100000 in
theorem ww_499 : Cond.selects "SealedRecords" ym_SR_item ym_SR_item ∈ q_W0 := List.mem_filter.mpr ⟨List.mem_append_right _ (List.mem_of_getElem? (i := 399) (by decide +kernel)), rfl⟩
set_option maxRecDepth 100000 in
theorem ww_500 : Cond.code ym_Mo_item prog_8_method_33_code 3 (some .int) ∈ q_W0 := List.mem_filter.mpr ⟨List.mem_append_right _ (List.mem_of_getElem? (i := 641) rfl), rfl⟩
theorem ww_501 : Cond.methodLink "SealedRecordsLaw" 94 ym_Mo_item ∈ q_W0 := List.mem_filter.mpr ⟨List.mem_append_right _ (List.mem_of_getElem? (i := 638) (by decide +kernel)), rfl⟩
theorem ww_502 : Cond.instanceMethod ym_Mo_item ∈ q_W0 := List.mem_filter.mpr ⟨List.mem_append_right _ (List.mem_of_getElem? (i := 639) (by decide +kernel)), rfl⟩
set_option maxRecDepth 100000 in
theorem ww_503 : Cond.selects "SealedRecordsModel" ym_Mo_item ym_Mo_item ∈ q_W0 := List.mem_filter.mpr ⟨List.mem_append_right _ (List.mem_of_getElem? (i := 640) (by decide +kernel)), rfl⟩
set_option maxRecDepth 100000 in
theorem ww_504 : Cond.code ym_SR_take prog_1_method_18_code 2 (some .boolean) ∈ q_W0 := List.mem_filter.mpr ⟨List.mem_append_right _ (List.mem_of_getElem? (i := 404) rfl), rfl⟩
theorem ww_505 : Cond.methodLink "SealedRecordsLaw" 95 ym_SR_take ∈ q_W0 := List.mem_filter.mpr ⟨List.mem_append_right _ (List.mem_of_getElem? (i := 401) (by decide +kernel)), rfl⟩
theorem ww_506 : Cond.instanceMethod ym_SR_take ∈ q_W0 := List.mem_filter.mpr ⟨List.mem_append_right _ (List.mem_of_getElem? (i := 402) (by decide +kernel)), rfl⟩
set_option maxRecDepth 100000 in
theorem ww_507 : Cond.selects "SealedRecords" ym_SR_take ym_SR_take ∈ q_W0 := List.mem_filter.mpr ⟨List.mem_append_right _ (List.mem_of_getElem? (i := 403) (by decide +kernel)), rfl⟩
set_option maxRecDepth 100000 in
theorem ww_508 : Cond.code ym_Mo_take prog_8_method_34_code 4 (some .boolean) ∈ q_W0 := List.mem_filter.mpr ⟨List.mem_append_right _ (List.mem_of_getElem? (i := 645) rfl), rfl⟩
theorem ww_509 : Cond.methodLink "SealedRecordsLaw" 98 ym_Mo_take ∈ q_W0 := List.mem_filter.mpr ⟨List.mem_append_right _ (List.mem_of_getElem? (i := 642) (by decide +kernel)), rfl⟩
theorem ww_510 : Cond.instanceMethod ym_Mo_take ∈ q_W0 := List.mem_filter.mpr ⟨List.mem_append_right _ (List.mem_of_getElem? (i := 643) (by decide +kernel)), rfl⟩
set_option maxRecDepth 100000 in
theorem ww_511 : Cond.selects "SealedRecordsModel" ym_Mo_take ym_Mo_take ∈ q_W0 := List.mem_filter.mpr ⟨List.mem_append_right _ (List.mem_of_getElem? (i := 644) (by decide +kernel)), rfl⟩
set_option maxRecDepth 100000 in
theorem ww_512 : Cond.code ym_SR_look prog_1_method_19_code 4 (some .int) ∈ q_W0 := List.mem_filter.mpr ⟨List.mem_append_right _ (List.mem_of_getElem? (i := 408) rfl), rfl⟩
theorem ww_513 : Cond.methodLink "SealedRecordsLaw" 99 ym_SR_look ∈ q_W0 := List.mem_filter.mpr ⟨List.mem_append_right _ (List.mem_of_getElem? (i := 405) (by decide +kernel)), rfl⟩
theorem ww_514 : Cond.instanceMethod ym_SR_look ∈ q_W0 := List.mem_filter.mpr ⟨List.mem_append_right _ (List.mem_of_getElem? (i := 406) (by decide +kernel)), rfl⟩
set_option maxRecDepth 100000 in
theorem ww_515 : Cond.selects "SealedRecords" ym_SR_look ym_SR_look ∈ q_W0 := List.mem_filter.mpr ⟨List.mem_append_right _ (List.mem_of_getElem? (i := 407) (by decide +kernel)), rfl⟩
set_option maxRecDepth 100000 in
theorem ww_516 : Cond.code ym_Mo_look prog_8_method_35_code 3 (some .int) ∈ q_W0 := List.mem_filter.mpr ⟨List.mem_append_right _ (List.mem_of_getElem? (i := 649) rfl), rfl⟩
theorem ww_517 : Cond.methodLink "SealedRecordsLaw" 102 ym_Mo_look ∈ q_W0 := List.mem_filter.mpr ⟨List.mem_append_right _ (List.mem_of_getElem? (i := 646) (by decide +kernel)), rfl⟩
theorem ww_518 : Cond.instanceMethod ym_Mo_look ∈ q_W0 := List.mem_filter.mpr ⟨List.mem_append_right _ (List.mem_of_getElem? (i := 647) (by decide +kernel)), rfl⟩
set_option maxRecDepth 100000 in
theorem ww_519 : Cond.selects "SealedRecordsModel" ym_Mo_look ym_Mo_look ∈ q_W0 := List.mem_filter.mpr ⟨List.mem_append_right _ (List.mem_of_getElem? (i := 648) (by decide +kernel)), rfl⟩
theorem ww_520 : Cond.classLink "SealedRecordsLaw" 7 "SealedRecords" ∈ q_W0 := List.mem_filter.mpr ⟨List.mem_append_right _ (List.mem_of_getElem? (i := 8) (by decide +kernel)), rfl⟩
set_option maxRecDepth 100000 in
theorem ww_521 : Cond.code ym_Lw_cell method_2_code 2 (some .int) ∈ q_W0 := List.mem_filter.mpr ⟨List.mem_append_right _ (List.mem_of_getElem? (i := 414) rfl), rfl⟩
theorem ww_522 : Cond.initialized "SealedRecordsLaw" ∈ q_W0 := List.mem_filter.mpr ⟨List.mem_append_right _ (List.mem_of_getElem? (i := 0) (by decide +kernel)), rfl⟩
theorem ww_523 : Cond.methodLink "SealedRecordsLaw" 9 ym_Lw_cell ∈ q_W0 := List.mem_filter.mpr ⟨List.mem_append_right _ (List.mem_of_getElem? (i := 412) (by decide +kernel)), rfl⟩
theorem ww_524 : Cond.static ym_Lw_cell ∈ q_W0 := List.mem_filter.mpr ⟨List.mem_append_right _ (List.mem_of_getElem? (i := 413) (by decide +kernel)), rfl⟩
set_option maxRecDepth 100000 in
theorem ww_525 : Cond.code ym_SR_init prog_1_method_1_code 2 none ∈ q_W0 := List.mem_filter.mpr ⟨List.mem_append_right _ (List.mem_of_getElem? (i := 12) rfl), rfl⟩
theorem ww_526 : Cond.methodLink "SealedRecordsLaw" 15 ym_SR_init ∈ q_W0 := List.mem_filter.mpr ⟨List.mem_append_right _ (List.mem_of_getElem? (i := 10) (by decide +kernel)), rfl⟩
theorem ww_527 : Cond.instanceMethod ym_SR_init ∈ q_W0 := List.mem_filter.mpr ⟨List.mem_append_right _ (List.mem_of_getElem? (i := 11) (by decide +kernel)), rfl⟩
theorem ww_528 : Cond.classLink "SealedRecordsLaw" 18 "SealedRecordsModel" ∈ q_W0 := List.mem_filter.mpr ⟨List.mem_append_right _ (List.mem_of_getElem? (i := 415) (by decide +kernel)), rfl⟩
set_option maxRecDepth 100000 in
theorem ww_529 : Cond.code ym_Mo_init prog_8_method_1_code 2 none ∈ q_W0 := List.mem_filter.mpr ⟨List.mem_append_right _ (List.mem_of_getElem? (i := 419) rfl), rfl⟩
theorem ww_530 : Cond.methodLink "SealedRecordsLaw" 20 ym_Mo_init ∈ q_W0 := List.mem_filter.mpr ⟨List.mem_append_right _ (List.mem_of_getElem? (i := 417) (by decide +kernel)), rfl⟩
theorem ww_531 : Cond.instanceMethod ym_Mo_init ∈ q_W0 := List.mem_filter.mpr ⟨List.mem_append_right _ (List.mem_of_getElem? (i := 418) (by decide +kernel)), rfl⟩
section QF
variable {l : Launch} {own : String} {cc : ByteArray} {nL : Nat} {ret : Option FieldType} {ini : Bool} {D : va_G} {E : Nat → ClassId} {B : Nat} {R : Room} {sc : qa_Z} {Qf : qa_R} {pc : Nat} {k : qa_K} {index : Nat}
theorem fg_0 (hl : Cond.fieldLink own index "SealedRecords" "limit" "I" ∈ q_W0) (hd : decode cc pc = .ok (.getfield index, 3)) (h : qa_S l own cc nL ret ini D E B R sc Qf (pc + 3) k) : qa_S l own cc nL ret ini D E B R sc Qf pc (qi_gi 1 0 k) := qs_gi 0 0 rfl (by decide) (fun _ _ => rfl) hl hd h
theorem fp_0 (hi : ini = true) (hl : Cond.fieldLink "SealedRecords" index "SealedRecords" "limit" "I" ∈ q_W0) (hd : decode cc pc = .ok (.putfield index, 3)) (h : qa_S l "SealedRecords" cc nL ret ini D E B R sc Qf (pc + 3) k) : qa_S l "SealedRecords" cc nL ret ini D E B R sc Qf pc (qi_pi 1 0 k) := qs_piF 0 0 rfl (by decide) (fun _ _ => rfl) (fun _ => rfl) (fun _ => rfl) rfl hi rfl hl hd h
theorem fg_1 (hl : Cond.fieldLink own index "SealedRecords" "ends" "[LSealedRecords$End;" ∈ q_W0) (hd : decode cc pc = .ok (.getfield index, 3)) (h : qa_S l own cc nL ret ini D E B R sc Qf (pc + 3) k) : qa_S l own cc nL ret ini D E B R sc Qf pc (qi_gp 1 1 k) := qs_gp 0 1 rfl (by decide) (fun _ _ => rfl) hl hd h
theorem fp_1 (hi : ini = true) (hl : Cond.fieldLink "SealedRecords" index "SealedRecords" "ends" "[LSealedRecords$End;" ∈ q_W0) (hd : decode cc pc = .ok (.putfield index, 3)) (h : qa_S l "SealedRecords" cc nL ret ini D E B R sc Qf (pc + 3) k) : qa_S l "SealedRecords" cc nL ret ini D E B R sc Qf pc (qi_pp 1 1 k) := qs_ppF 0 1 rfl (by decide) (fun _ _ => rfl) (fun _ => rfl) (fun _ => rfl) rfl hi rfl hl hd h
theorem fg_32 (hl : Cond.fieldLink own index "SealedRecords$Packet" "bytes" "[I" ∈ q_W0) (hd : decode cc pc = .ok (.getfield index, 3)) (h : qa_S l own cc nL ret ini D E B R sc Qf (pc + 3) k) : qa_S l own cc nL ret ini D E B R sc Qf pc (qi_gp 2 32 k) := qs_gp 1 0 rfl (by decide) (fun _ _ => rfl) hl hd h
theorem fp_32 (hi : ini = true) (hl : Cond.fieldLink "SealedRecords$Packet" index "SealedRecords$Packet" "bytes" "[I" ∈ q_W0) (hd : decode cc pc = .ok (.putfield index, 3)) (h : qa_S l "SealedRecords$Packet" cc nL ret ini D E B R sc Qf (pc + 3) k) : qa_S l "SealedRecords$Packet" cc nL ret ini D E B R sc Qf pc (qi_pp 2 32 k) := qs_ppF 1 0 rfl (by decide) (fun _ _ => rfl) (fun _ => rfl) (fun _ => rfl) rfl hi rfl hl hd h
theorem fg_33 (hl : Cond.fieldLink own index "SealedRecords$Packet" "type" "I" ∈ q_W0) (hd : decode cc pc = .ok (.getfield index, 3)) (h : qa_S l own cc nL ret ini D E B R sc Qf (pc + 3) k) : qa_S l own cc nL ret ini D E B R sc Qf pc (qi_gi 2 33 k) := qs_gi 1 1 rfl (by decide) (fun _ _ => rfl) hl hd h
theorem fp_33 (hl : Cond.fieldLink own index "SealedRecords$Packet" "type" "I" ∈ q_W0) (hd : decode cc pc = .ok (.putfield index, 3)) (h : qa_S l own cc nL ret ini D E B R sc Qf (pc + 3) k) : qa_S l own cc nL ret ini D E B R sc Qf pc (qi_pi 2 33 k) := qs_pi 1 1 rfl (by decide) (fun _ _ => rfl) (fun _ => rfl) (fun _ => rfl) rfl hl hd h
theorem fg_34 (hl : Cond.fieldLink own index "SealedRecords$Packet" "size" "I" ∈ q_W0) (hd : decode cc pc = .ok (.getfield index, 3)) (h : qa_S l own cc nL ret ini D E B R sc Qf (pc + 3) k) : qa_S l own cc nL ret ini D E B R sc Qf pc (qi_gi 2 34 k) := qs_gi 1 2 rfl (by decide) (fun _ _ => rfl) hl hd h
theorem fp_34 (hl : Cond.fieldLink own index "SealedRecords$Packet" "size" "I" ∈ q_W0) (hd : decode cc pc = .ok (.putfield index, 3)) (h : qa_S l own cc nL ret ini D E B R sc Qf (pc + 3) k) : qa_S l own cc nL ret ini D E B R sc Qf pc (qi_pi 2 34 k) := qs_pi 1 2 rfl (by decide) (fun _ _ => rfl) (fun _ => rfl) (fun _ => rfl) rfl hl hd h
theorem fg_64 (hl : Cond.fieldLink own index "SealedRecords$Row" "slots" "[LSealedRecords$Packet;" ∈ q_W0) (hd : decode cc pc = .ok (.getfield index, 3)) (h : qa_S l own cc nL ret ini D E B R sc Qf (pc + 3) k) : qa_S l own cc nL ret ini D E B R sc Qf pc (qi_gp 3 64 k) := qs_gp 2 0 rfl (by decide) (fun _ _ => rfl) hl hd h
theorem fp_64 (hi : ini = true) (hl : Cond.fieldLink "SealedRecords$Row" index "SealedRecords$Row" "slots" "[LSealedRecords$Packet;" ∈ q_W0) (hd : decode cc pc = .ok (.putfield index, 3)) (h : qa_S l "SealedRecords$Row" cc nL ret ini D E B R sc Qf (pc + 3) k) : qa_S l "SealedRecords$Row" cc nL ret ini D E B R sc Qf pc (qi_pp 3 64 k) := qs_ppF 2 0 rfl (by decide) (fun _ _ => rfl) (fun _ => rfl) (fun _ => rfl) rfl hi rfl hl hd h
theorem fg_65 (hl : Cond.fieldLink own index "SealedRecords$Row" "size" "I" ∈ q_W0) (hd : decode cc pc = .ok (.getfield index, 3)) (h : qa_S l own cc nL ret ini D E B R sc Qf (pc + 3) k) : qa_S l own cc nL ret ini D E B R sc Qf pc (qi_gi 3 65 k) := qs_gi 2 1 rfl (by decide) (fun _ _ => rfl) hl hd h
theorem fp_65 (hl : Cond.fieldLink own index "SealedRecords$Row" "size" "I" ∈ q_W0) (hd : decode cc pc = .ok (.putfield index, 3)) (h : qa_S l own cc nL ret ini D E B R sc Qf (pc + 3) k) : qa_S l own cc nL ret ini D E B R sc Qf pc (qi_pi 3 65 k) := qs_pi 2 1 rfl (by decide) (fun _ _ => rfl) (fun _ => rfl) (fun _ => rfl) rfl hl hd h
theorem fg_96 (hl : Cond.fieldLink own index "SealedRecords$Side" "stage" "I" ∈ q_W0) (hd : decode cc pc = .ok (.getfield index, 3)) (h : qa_S l own cc nL ret ini D E B R sc Qf (pc + 3) k) : qa_S l own cc nL ret ini D E B R sc Qf pc (qi_gi 4 96 k) := qs_gi 3 0 rfl (by decide) (fun _ _ => rfl) hl hd h
theorem fp_96 (hl : Cond.fieldLink own index "SealedRecords$Side" "stage" "I" ∈ q_W0) (hd : decode cc pc = .ok (.putfield index, 3)) (h : qa_S l own cc nL ret ini D E B R sc Qf (pc + 3) k) : qa_S l own cc nL ret ini D E B R sc Qf pc (qi_pi 4 96 k) := qs_pi 3 0 rfl (by decide) (fun _ _ => rfl) (fun _ => rfl) (fun _ => rfl) rfl hl hd h
theorem fg_97 (hl : Cond.fieldLink own index "SealedRecords$Side" "secret" "J" ∈ q_W0) (hd : decode cc pc = .ok (.getfield index, 3)) (h : qa_S l own cc nL ret ini D E B R sc Qf (pc + 3) k) : qa_S l own cc nL ret ini D E B R sc Qf pc (qi_gj 4 97 k) := qs_gj 3 1 rfl (by decide) (fun _ _ => rfl) hl hd h
theorem fp_97 (hl : Cond.fieldLink own index "SealedRecords$Side" "secret" "J" ∈ q_W0) (hd : decode cc pc = .ok (.putfield index, 3)) (h : qa_S l own cc nL ret ini D E B R sc Qf (pc + 3) k) : qa_S l own cc nL ret ini D E B R sc Qf pc (qi_pj 4 97 k) := qs_pj 3 1 rfl (by decide) (fun _ _ => rfl) (fun _ => rfl) (fun _ => rfl) rfl hl hd h
theorem fg_98 (hl : Cond.fieldLink own index "SealedRecords$Side" "count" "I" ∈ q_W0) (hd : decode cc pc = .ok (.getfield index, 3)) (h : qa_S l own cc nL ret ini D E B R sc Qf (pc + 3) k) : qa_S l own cc nL ret ini D E B R sc Qf pc (qi_gi 4 98 k) := qs_gi 3 2 rfl (by decide) (fun _ _ => rfl) hl hd h
theorem fp_98 (hl : Cond.fieldLink own index "SealedRecords$Side" "count" "I" ∈ q_W0) (hd : decode cc pc = .ok (.putfield index, 3)) (h : qa_S l own cc nL ret ini D E B R sc Qf (pc + 3) k) : qa_S l own cc nL ret ini D E B R sc Qf pc (qi_pi 4 98 k) := qs_pi 3 2 rfl (by decide) (fun _ _ => rfl) (fun _ => rfl) (fun _ => rfl) rfl hl hd h
theorem fg_99 (hl : Cond.fieldLink own index "SealedRecords$Side" "closed" "Z" ∈ q_W0) (hd : decode cc pc = .ok (.getfield index, 3)) (h : qa_S l own cc nL ret ini D E B R sc Qf (pc + 3) k) : qa_S l own cc nL ret ini D E B R sc Qf pc (qi_gi 4 99 k) := qs_gi 3 3 rfl (by decide) (fun _ _ => rfl) hl hd h
theorem fp_99 (hl : Cond.fieldLink own index "SealedRecords$Side" "closed" "Z" ∈ q_W0) (hd : decode cc pc = .ok (.putfield index, 3)) (h : qa_S l own cc nL ret ini D E B R sc Qf (pc + 3) k) : qa_S l own cc nL ret ini D E B R sc Qf pc (qi_pz 4 99 k) := qs_pz 3 3 rfl (by decide) (fun _ _ => rfl) (fun x hx => by rcases hx with rfl | rfl <;> rfl) (fun x hx => by rcases hx with rfl | rfl <;> rfl) rfl hl hd h
theorem fg_128 (hl : Cond.fieldLink own index "SealedRecords$Messages" "kind" "I" ∈ q_W0) (hd : decode cc pc = .ok (.getfield index, 3)) (h : qa_S l own cc nL ret ini D E B R sc Qf (pc + 3) k) : qa_S l own cc nL ret ini D E B R sc Qf pc (qi_gi 5 128 k) := qs_gi 4 0 rfl (by decide) (fun _ _ => rfl) hl hd h
theorem fp_128 (hl : Cond.fieldLink own index "SealedRecords$Messages" "kind" "I" ∈ q_W0) (hd : decode cc pc = .ok (.putfield index, 3)) (h : qa_S l own cc nL ret ini D E B R sc Qf (pc + 3) k) : qa_S l own cc nL ret ini D E B R sc Qf pc (qi_pi 5 128 k) := qs_pi 4 0 rfl (by decide) (fun _ _ => rfl) (fun _ => rfl) (fun _ => rfl) rfl hl hd h
theorem fg_129 (hl : Cond.fieldLink own index "SealedRecords$Messages" "length" "I" ∈ q_W0) (hd : decode cc pc = .ok (.getfield index, 3)) (h : qa_S l own cc nL ret ini D E B R sc Qf (pc + 3) k) : qa_S l own cc nL ret ini D E B R sc Qf pc (qi_gi 5 129 k) := qs_gi 4 1 rfl (by decide) (fun _ _ => rfl) hl hd h
theorem fp_129 (hl : Cond.fieldLink own index "SealedRecords$Messages" "length" "I" ∈ q_W0) (hd : decode cc pc = .ok (.putfield index, 3)) (h : qa_S l own cc nL ret ini D E B R sc Qf (pc + 3) k) : qa_S l own cc nL ret ini D E B R sc Qf pc (qi_pi 5 129 k) := qs_pi 4 1 rfl (by decide) (fun _ _ => rfl) (fun _ => rfl) (fun _ => rfl) rfl hl hd h
theorem fg_130 (hl : Cond.fieldLink own index "SealedRecords$Messages" "come" "I" ∈ q_W0) (hd : decode cc pc = .ok (.getfield index, 3)) (h : qa_S l own cc nL ret ini D E B R sc Qf (pc + 3) k) : qa_S l own cc nL ret ini D E B R sc Qf pc (qi_gi 5 130 k) := qs_gi 4 2 rfl (by decide) (fun _ _ => rfl) hl hd h
theorem fp_130 (hl : Cond.fieldLink own index "SealedRecords$Messages" "come" "I" ∈ q_W0) (hd : decode cc pc = .ok (.putfield index, 3)) (h : qa_S l own cc nL ret ini D E B R sc Qf (pc + 3) k) : qa_S l own cc nL ret ini D E B R sc Qf pc (qi_pi 5 130 k) := qs_pi 4 2 rfl (by decide) (fun _ _ => rfl) (fun _ => rfl) (fun _ => rfl) rfl hl hd h
theorem fg_160 (hl : Cond.fieldLink own index "SealedRecords$End" "number" "I" ∈ q_W0) (hd : decode cc pc = .ok (.getfield index, 3)) (h : qa_S l own cc nL ret ini D E B R sc Qf (pc + 3) k) : qa_S l own cc nL ret ini D E B R sc Qf pc (qi_gi 6 160 k) := qs_gi 5 0 rfl (by decide) (fun _ _ => rfl) hl hd h
theorem fp_160 (hi : ini = true) (hl : Cond.fieldLink "SealedRecords$End" index "SealedRecords$End" "number" "I" ∈ q_W0) (hd : decode cc pc = .ok (.putfield index, 3)) (h : qa_S l "SealedRecords$End" cc nL ret ini D E B R sc Qf (pc + 3) k) : qa_S l "SealedRecords$End" cc nL ret ini D E B R sc Qf pc (qi_pi 6 160 k) := qs_piF 5 0 rfl (by decide) (fun _ _ => rfl) (fun _ => rfl) (fun _ => rfl) rfl hi rfl hl hd h
theorem fg_161 (hl : Cond.fieldLink own index "SealedRecords$End" "sending" "LSealedRecords$Side;" ∈ q_W0) (hd : decode cc pc = .ok (.getfield index, 3)) (h : qa_S l own cc nL ret ini D E B R sc Qf (pc + 3) k) : qa_S l own cc nL ret ini D E B R sc Qf pc (qi_gp 6 161 k) := qs_gp 5 1 rfl (by decide) (fun _ _ => rfl) hl hd h
theorem fp_161 (hi : ini = true) (hl : Cond.fieldLink "SealedRecords$End" index "SealedRecords$End" "sending" "LSealedRecords$Side;" ∈ q_W0) (hd : decode cc pc = .ok (.putfield index, 3)) (h : qa_S l "SealedRecords$End" cc nL ret ini D E B R sc Qf (pc + 3) k) : qa_S l "SealedRecords$End" cc nL ret ini D E B R sc Qf pc (qi_pp 6 161 k) := qs_ppF 5 1 rfl (by decide) (fun _ _ => rfl) (fun _ => rfl) (fun _ => rfl) rfl hi rfl hl hd h
theorem fg_162 (hl : Cond.fieldLink own index "SealedRecords$End" "receiving" "LSealedRecords$Side;" ∈ q_W0) (hd : decode cc pc = .ok (.getfield index, 3)) (h : qa_S l own cc nL ret ini D E B R sc Qf (pc + 3) k) : qa_S l own cc nL ret ini D E B R sc Qf pc (qi_gp 6 162 k) := qs_gp 5 2 rfl (by decide) (fun _ _ => rfl) hl hd h
theorem fp_162 (hi : ini = true) (hl : Cond.fieldLink "SealedRecords$End" index "SealedRecords$End" "receiving" "LSealedRecords$Side;" ∈ q_W0) (hd : decode cc pc = .ok (.putfield index, 3)) (h : qa_S l "SealedRecords$End" cc nL ret ini D E B R sc Qf (pc + 3) k) : qa_S l "SealedRecords$End" cc nL ret ini D E B R sc Qf pc (qi_pp 6 162 k) := qs_ppF 5 2 rfl (by decide) (fun _ _ => rfl) (fun _ => rfl) (fun _ => rfl) rfl hi rfl hl hd h
theorem fg_163 (hl : Cond.fieldLink own index "SealedRecords$End" "draft" "LSealedRecords$Packet;" ∈ q_W0) (hd : decode cc pc = .ok (.getfield index, 3)) (h : qa_S l own cc nL ret ini D E B R sc Qf (pc + 3) k) : qa_S l own cc nL ret ini D E B R sc Qf pc (qi_gp 6 163 k) := qs_gp 5 3 rfl (by decide) (fun _ _ => rfl) hl hd h
theorem fp_163 (hi : ini = true) (hl : Cond.fieldLink "SealedRecords$End" index "SealedRecords$End" "draft" "LSealedRecords$Packet;" ∈ q_W0) (hd : decode cc pc = .ok (.putfield index, 3)) (h : qa_S l "SealedRecords$End" cc nL ret ini D E B R sc Qf (pc + 3) k) : qa_S l "SealedRecords$End" cc nL ret ini D E B R sc Qf pc (qi_pp 6 163 k) := qs_ppF 5 3 rfl (by decide) (fun _ _ => rfl) (fun _ => rfl) (fun _ => rfl) rfl hi rfl hl hd h
theorem fg_164 (hl : Cond.fieldLink own index "SealedRecords$End" "arriving" "LSealedRecords$Row;" ∈ q_W0) (hd : decode cc pc = .ok (.getfield index, 3)) (h : qa_S l own cc nL ret ini D E B R sc Qf (pc + 3) k) : qa_S l own cc nL ret ini D E B R sc Qf pc (qi_gp 6 164 k) := qs_gp 5 4 rfl (by decide) (fun _ _ => rfl) hl hd h
theorem fp_164 (hi : ini = true) (hl : Cond.fieldLink "SealedRecords$End" index "SealedRecords$End" "arriving" "LSealedRecords$Row;" ∈ q_W0) (hd : decode cc pc = .ok (.putfield index, 3)) (h : qa_S l "SealedRecords$End" cc nL ret ini D E B R sc Qf (pc + 3) k) : qa_S l "SealedRecords$End" cc nL ret ini D E B R sc Qf pc (qi_pp 6 164 k) := qs_ppF 5 4 rfl (by decide) (fun _ _ => rfl) (fun _ => rfl) (fun _ => rfl) rfl hi rfl hl hd h
theorem fg_165 (hl : Cond.fieldLink own index "SealedRecords$End" "delivered" "LSealedRecords$Row;" ∈ q_W0) (hd : decode cc pc = .ok (.getfield index, 3)) (h : qa_S l own cc nL ret ini D E B R sc Qf (pc + 3) k) : qa_S l own cc nL ret ini D E B R sc Qf pc (qi_gp 6 165 k) := qs_gp 5 5 rfl (by decide) (fun _ _ => rfl) hl hd h
theorem fp_165 (hi : ini = true) (hl : Cond.fieldLink "SealedRecords$End" index "SealedRecords$End" "delivered" "LSealedRecords$Row;" ∈ q_W0) (hd : decode cc pc = .ok (.putfield index, 3)) (h : qa_S l "SealedRecords$End" cc nL ret ini D E B R sc Qf (pc + 3) k) : qa_S l "SealedRecords$End" cc nL ret ini D E B R sc Qf pc (qi_pp 6 165 k) := qs_ppF 5 5 rfl (by decide) (fun _ _ => rfl) (fun _ => rfl) (fun _ => rfl) rfl hi rfl hl hd h
theorem fg_166 (hl : Cond.fieldLink own index "SealedRecords$End" "messages" "LSealedRecords$Messages;" ∈ q_W0) (hd : decode cc pc = .ok (.getfield index, 3)) (h : qa_S l own cc nL ret ini D E B R sc Qf (pc + 3) k) : qa_S l own cc nL ret ini D E B R sc Qf pc (qi_gp 6 166 k) := qs_gp 5 6 rfl (by decide) (fun _ _ => rfl) hl hd h
theorem fp_166 (hi : ini = true) (hl : Cond.fieldLink "SealedRecords$End" index "SealedRecords$End" "messages" "LSealedRecords$Messages;" ∈ q_W0) (hd : decode cc pc = .ok (.putfield index, 3)) (h : qa_S l "SealedRecords$End" cc nL ret ini D E B R sc Qf (pc + 3) k) : qa_S l "SealedRecords$End" cc nL ret ini D E B R sc Qf pc (qi_pp 6 166 k) := qs_ppF 5 6 rfl (by decide) (fun _ _ => rfl) (fun _ => rfl) (fun _ => rfl) rfl hi rfl hl hd h
theorem fg_167 (hl : Cond.fieldLink own index "SealedRecords$End" "ahead" "LSealedRecords$Messages;" ∈ q_W0) (hd : decode cc pc = .ok (.getfield index, 3)) (h : qa_S l own cc nL ret ini D E B R sc Qf (pc + 3) k) : qa_S l own cc nL ret ini D E B R sc Qf pc (qi_gp 6 167 k) := qs_gp 5 7 rfl (by decide) (fun _ _ => rfl) hl hd h
theorem fp_167 (hi : ini = true) (hl : Cond.fieldLink "SealedRecords$End" index "SealedRecords$End" "ahead" "LSealedRecords$Messages;" ∈ q_W0) (hd : decode cc pc = .ok (.putfield index, 3)) (h : qa_S l "SealedRecords$End" cc nL ret ini D E B R sc Qf (pc + 3) k) : qa_S l "SealedRecords$End" cc nL ret ini D E B R sc Qf pc (qi_pp 6 167 k) := qs_ppF 5 7 rfl (by decide) (fun _ _ => rfl) (fun _ => rfl) (fun _ => rfl) rfl hi rfl hl hd h
theorem fg_168 (hl : Cond.fieldLink own index "SealedRecords$End" "opened" "LSealedRecords$Packet;" ∈ q_W0) (hd : decode cc pc = .ok (.getfield index, 3)) (h : qa_S l own cc nL ret ini D E B R sc Qf (pc + 3) k) : qa_S l own cc nL ret ini D E B R sc Qf pc (qi_gp 6 168 k) := qs_gp 5 8 rfl (by decide) (fun _ _ => rfl) hl hd h
theorem fp_168 (hi : ini = true) (hl : Cond.fieldLink "SealedRecords$End" index "SealedRecords$End" "opened" "LSealedRecords$Packet;" ∈ q_W0) (hd : decode cc pc = .ok (.putfield index, 3)) (h : qa_S l "SealedRecords$End" cc nL ret ini D E B R sc Qf (pc + 3) k) : qa_S l "SealedRecords$End" cc nL ret ini D E B R sc Qf pc (qi_pp 6 168 k) := qs_ppF 5 8 rfl (by decide) (fun _ _ => rfl) (fun _ => rfl) (fun _ => rfl) rfl hi rfl hl hd h
theorem fg_169 (hl : Cond.fieldLink own index "SealedRecords$End" "chain" "J" ∈ q_W0) (hd : decode cc pc = .ok (.getfield index, 3)) (h : qa_S l own cc nL ret ini D E B R sc Qf (pc + 3) k) : qa_S l own cc nL ret ini D E B R sc Qf pc (qi_gj 6 169 k) := qs_gj 5 9 rfl (by decide) (fun _ _ => rfl) hl hd h
theorem fp_169 (hl : Cond.fieldLink own index "SealedRecords$End" "chain" "J" ∈ q_W0) (hd : decode cc pc = .ok (.putfield index, 3)) (h : qa_S l own cc nL ret ini D E B R sc Qf (pc + 3) k) : qa_S l own cc nL ret ini D E B R sc Qf pc (qi_pj 6 169 k) := qs_pj 5 9 rfl (by decide) (fun _ _ => rfl) (fun _ => rfl) (fun _ => rfl) rfl hl hd h
theorem fg_170 (hl : Cond.fieldLink own index "SealedRecords$End" "chainStage" "I" ∈ q_W0) (hd : decode cc pc = .ok (.getfield index, 3)) (h : qa_S l own cc nL ret ini D E B R sc Qf (pc + 3) k) : qa_S l own cc nL ret ini D E B R sc Qf pc (qi_gi 6 170 k) := qs_gi 5 10 rfl (by decide) (fun _ _ => rfl) hl hd h
theorem fp_170 (hl : Cond.fieldLink own index "SealedRecords$End" "chainStage" "I" ∈ q_W0) (hd : decode cc pc = .ok (.putfield index, 3)) (h : qa_S l own cc nL ret ini D E B R sc Qf (pc + 3) k) : qa_S l own cc nL ret ini D E B R sc Qf pc (qi_pi 6 170 k) := qs_pi 5 10 rfl (by decide) (fun _ _ => rfl) (fun _ => rfl) (fun _ => rfl) rfl hl hd h
theorem fg_171 (hl : Cond.fieldLink own index "SealedRecords$End" "reason" "I" ∈ q_W0) (hd : decode cc pc = .ok (.getfield index, 3)) (h : qa_S l own cc nL ret ini D E B R sc Qf (pc + 3) k) : qa_S l own cc nL ret ini D E B R sc Qf pc (qi_gi 6 171 k) := qs_gi 5 11 rfl (by decide) (fun _ _ => rfl) hl hd h
theorem fp_171 (hl : Cond.fieldLink own index "SealedRecords$End" "reason" "I" ∈ q_W0) (hd : decode cc pc = .ok (.putfield index, 3)) (h : qa_S l own cc nL ret ini D E B R sc Qf (pc + 3) k) : qa_S l own cc nL ret ini D E B R sc Qf pc (qi_pi 6 171 k) := qs_pi 5 11 rfl (by decide) (fun _ _ => rfl) (fun _ => rfl) (fun _ => rfl) rfl hl hd h
theorem fg_172 (hl : Cond.fieldLink own index "SealedRecords$End" "owesChange" "Z" ∈ q_W0) (hd : decode cc pc = .ok (.getfield index, 3)) (h : qa_S l own cc nL ret ini D E B R sc Qf (pc + 3) k) : qa_S l own cc nL ret ini D E B R sc Qf pc (qi_gi 6 172 k) := qs_gi 5 12 rfl (by decide) (fun _ _ => rfl) hl hd h
theorem fp_172 (hl : Cond.fieldLink own index "SealedRecords$End" "owesChange" "Z" ∈ q_W0) (hd : decode cc pc = .ok (.putfield index, 3)) (h : qa_S l own cc nL ret ini D E B R sc Qf (pc + 3) k) : qa_S l own cc nL ret ini D E B R sc Qf pc (qi_pz 6 172 k) := qs_pz 5 12 rfl (by decide) (fun _ _ => rfl) (fun x hx => by rcases hx with rfl | rfl <;> rfl) (fun x hx => by rcases hx with rfl | rfl <;> rfl) rfl hl hd h
theorem fg_192 (hl : Cond.fieldLink own index "SealedRecordsModel" "limit" "I" ∈ q_W0) (hd : decode cc pc = .ok (.getfield index, 3)) (h : qa_S l own cc nL ret ini D E B R sc Qf (pc + 3) k) : qa_S l own cc nL ret ini D E B R sc Qf pc (qi_gi 7 192 k) := qs_gi 6 0 rfl (by decide) (fun _ _ => rfl) hl hd h
theorem fp_192 (hi : ini = true) (hl : Cond.fieldLink "SealedRecordsModel" index "SealedRecordsModel" "limit" "I" ∈ q_W0) (hd : decode cc pc = .ok (.putfield index, 3)) (h : qa_S l "SealedRecordsModel" cc nL ret ini D E B R sc Qf (pc + 3) k) : qa_S l "SealedRecordsModel" cc nL ret ini D E B R sc Qf pc (qi_pi 7 192 k) := qs_piF 6 0 rfl (by decide) (fun _ _ => rfl) (fun _ => rfl) (fun _ => rfl) rfl hi rfl hl hd h
theorem fg_193 (hl : Cond.fieldLink own index "SealedRecordsModel" "chain" "[J" ∈ q_W0) (hd : decode cc pc = .ok (.getfield index, 3)) (h : qa_S l own cc nL ret ini D E B R sc Qf (pc + 3) k) : qa_S l own cc nL ret ini D E B R sc Qf pc (qi_gp 7 193 k) := qs_gp 6 1 rfl (by decide) (fun _ _ => rfl) hl hd h
theorem fp_193 (hi : ini = true) (hl : Cond.fieldLink "SealedRecordsModel" index "SealedRecordsModel" "chain" "[J" ∈ q_W0) (hd : decode cc pc = .ok (.putfield index, 3)) (h : qa_S l "SealedRecordsModel" cc nL ret ini D E B R sc Qf (pc + 3) k) : qa_S l "SealedRecordsModel" cc nL ret ini D E B R sc Qf pc (qi_pp 7 193 k) := qs_ppF 6 1 rfl (by decide) (fun _ _ => rfl) (fun _ => rfl) (fun _ => rfl) rfl hi rfl hl hd h
theorem fg_194 (hl : Cond.fieldLink own index "SealedRecordsModel" "chainStage" "[I" ∈ q_W0) (hd : decode cc pc = .ok (.getfield index, 3)) (h : qa_S l own cc nL ret ini D E B R sc Qf (pc + 3) k) : qa_S l own cc nL ret ini D E B R sc Qf pc (qi_gp 7 194 k) := qs_gp 6 2 rfl (by decide) (fun _ _ => rfl) hl hd h
theorem fp_194 (hi : ini = true) (hl : Cond.fieldLink "SealedRecordsModel" index "SealedRecordsModel" "chainStage" "[I" ∈ q_W0) (hd : decode cc pc = .ok (.putfield index, 3)) (h : qa_S l "SealedRecordsModel" cc nL ret ini D E B R sc Qf (pc + 3) k) : qa_S l "SealedRecordsModel" cc nL ret ini D E B R sc Qf pc (qi_pp 7 194 k) := qs_ppF 6 2 rfl (by decide) (fun _ _ => rfl) (fun _ => rfl) (fun _ => rfl) rfl hi rfl hl hd h
theorem fg_195 (hl : Cond.fieldLink own index "SealedRecordsModel" "stage" "[I" ∈ q_W0) (hd : decode cc pc = .ok (.getfield index, 3)) (h : qa_S l own cc nL ret ini D E B R sc Qf (pc + 3) k) : qa_S l own cc nL ret ini D E B R sc Qf pc (qi_gp 7 195 k) := qs_gp 6 3 rfl (by decide) (fun _ _ => rfl) hl hd h
theorem fp_195 (hi : ini = true) (hl : Cond.fieldLink "SealedRecordsModel" index "SealedRecordsModel" "stage" "[I" ∈ q_W0) (hd : decode cc pc = .ok (.putfield index, 3)) (h : qa_S l "SealedRecordsModel" cc nL ret ini D E B R sc Qf (pc + 3) k) : qa_S l "SealedRecordsModel" cc nL ret ini D E B R sc Qf pc (qi_pp 7 195 k) := qs_ppF 6 3 rfl (by decide) (fun _ _ => rfl) (fun _ => rfl) (fun _ => rfl) rfl hi rfl hl hd h
theorem fg_196 (hl : Cond.fieldLink own index "SealedRecordsModel" "secrets" "[J" ∈ q_W0) (hd : decode cc pc = .ok (.getfield index, 3)) (h : qa_S l own cc nL ret ini D E B R sc Qf (pc + 3) k) : qa_S l own cc nL ret ini D E B R sc Qf pc (qi_gp 7 196 k) := qs_gp 6 4 rfl (by decide) (fun _ _ => rfl) hl hd h
theorem fp_196 (hi : ini = true) (hl : Cond.fieldLink "SealedRecordsModel" index "SealedRecordsModel" "secrets" "[J" ∈ q_W0) (hd : decode cc pc = .ok (.putfield index, 3)) (h : qa_S l "SealedRecordsModel" cc nL ret ini D E B R sc Qf (pc + 3) k) : qa_S l "SealedRecordsModel" cc nL ret ini D E B R sc Qf pc (qi_pp 7 196 k) := qs_ppF 6 4 rfl (by decide) (fun _ _ => rfl) (fun _ => rfl) (fun _ => rfl) rfl hi rfl hl hd h
theorem fg_197 (hl : Cond.fieldLink own index "SealedRecordsModel" "count" "[I" ∈ q_W0) (hd : decode cc pc = .ok (.getfield index, 3)) (h : qa_S l own cc nL ret ini D E B R sc Qf (pc + 3) k) : qa_S l own cc nL ret ini D E B R sc Qf pc (qi_gp 7 197 k) := qs_gp 6 5 rfl (by decide) (fun _ _ => rfl) hl hd h
theorem fp_197 (hi : ini = true) (hl : Cond.fieldLink "SealedRecordsModel" index "SealedRecordsModel" "count" "[I" ∈ q_W0) (hd : decode cc pc = .ok (.putfield index, 3)) (h : qa_S l "SealedRecordsModel" cc nL ret ini D E B R sc Qf (pc + 3) k) : qa_S l "SealedRecordsModel" cc nL ret ini D E B R sc Qf pc (qi_pp 7 197 k) := qs_ppF 6 5 rfl (by decide) (fun _ _ => rfl) (fun _ => rfl) (fun _ => rfl) rfl hi rfl hl hd h
theorem fg_198 (hl : Cond.fieldLink own index "SealedRecordsModel" "closed" "[Z" ∈ q_W0) (hd : decode cc pc = .ok (.getfield index, 3)) (h : qa_S l own cc nL ret ini D E B R sc Qf (pc + 3) k) : qa_S l own cc nL ret ini D E B R sc Qf pc (qi_gp 7 198 k) := qs_gp 6 6 rfl (by decide) (fun _ _ => rfl) hl hd h
theorem fp_198 (hi : ini = true) (hl : Cond.fieldLink "SealedRecordsModel" index "SealedRecordsModel" "closed" "[Z" ∈ q_W0) (hd : decode cc pc = .ok (.putfield index, 3)) (h : qa_S l "SealedRecordsModel" cc nL ret ini D E B R sc Qf (pc + 3) k) : qa_S l "SealedRecordsModel" cc nL ret ini D E B R sc Qf pc (qi_pp 7 198 k) := qs_ppF 6 6 rfl (by decide) (fun _ _ => rfl) (fun _ => rfl) (fun _ => rfl) rfl hi rfl hl hd h
theorem fg_199 (hl : Cond.fieldLink own index "SealedRecordsModel" "reason" "[I" ∈ q_W0) (hd : decode cc pc = .ok (.getfield index, 3)) (h : qa_S l own cc nL ret ini D E B R sc Qf (pc + 3) k) : qa_S l own cc nL ret ini D E B R sc Qf pc (qi_gp 7 199 k) := qs_gp 6 7 rfl (by decide) (fun _ _ => rfl) hl hd h
theorem fp_199 (hi : ini = true) (hl : Cond.fieldLink "SealedRecordsModel" index "SealedRecordsModel" "reason" "[I" ∈ q_W0) (hd : decode cc pc = .ok (.putfield index, 3)) (h : qa_S l "SealedRecordsModel" cc nL ret ini D E B R sc Qf (pc + 3) k) : qa_S l "SealedRecordsModel" cc nL ret ini D E B R sc Qf pc (qi_pp 7 199 k) := qs_ppF 6 7 rfl (by decide) (fun _ _ => rfl) (fun _ => rfl) (fun _ => rfl) rfl hi rfl hl hd h
theorem fg_200 (hl : Cond.fieldLink own index "SealedRecordsModel" "owes" "[Z" ∈ q_W0) (hd : decode cc pc = .ok (.getfield index, 3)) (h : qa_S l own cc nL ret ini D E B R sc Qf (pc + 3) k) : qa_S l own cc nL ret ini D E B R sc Qf pc (qi_gp 7 200 k) := qs_gp 6 8 rfl (by decide) (fun _ _ => rfl) hl hd h
theorem fp_200 (hi : ini = true) (hl : Cond.fieldLink "SealedRecordsModel" index "SealedRecordsModel" "owes" "[Z" ∈ q_W0) (hd : decode cc pc = .ok (.putfield index, 3)) (h : qa_S l "SealedRecordsModel" cc nL ret ini D E B R sc Qf (pc + 3) k) : qa_S l "SealedRecordsModel" cc nL ret ini D E B R sc Qf pc (qi_pp 7 200 k) := qs_ppF 6 8 rfl (by decide) (fun _ _ => rfl) (fun _ => rfl) (fun _ => rfl) rfl hi rfl hl hd h
theorem fg_201 (hl : Cond.fieldLink own index "SealedRecordsModel" "draft" "[I" ∈ q_W0) (hd : decode cc pc = .ok (.getfield index, 3)) (h : qa_S l own cc nL ret ini D E B R sc Qf (pc + 3) k) : qa_S l own cc nL ret ini D E B R sc Qf pc (qi_gp 7 201 k) := qs_gp 6 9 rfl (by decide) (fun _ _ => rfl) hl hd h
theorem fp_201 (hi : ini = true) (hl : Cond.fieldLink "SealedRecordsModel" index "SealedRecordsModel" "draft" "[I" ∈ q_W0) (hd : decode cc pc = .ok (.putfield index, 3)) (h : qa_S l "SealedRecordsModel" cc nL ret ini D E B R sc Qf (pc + 3) k) : qa_S l "SealedRecordsModel" cc nL ret ini D E B R sc Qf pc (qi_pp 7 201 k) := qs_ppF 6 9 rfl (by decide) (fun _ _ => rfl) (fun _ => rfl) (fun _ => rfl) rfl hi rfl hl hd h
theorem fg_202 (hl : Cond.fieldLink own index "SealedRecordsModel" "drafted" "[I" ∈ q_W0) (hd : decode cc pc = .ok (.getfield index, 3)) (h : qa_S l own cc nL ret ini D E B R sc Qf (pc + 3) k) : qa_S l own cc nL ret ini D E B R sc Qf pc (qi_gp 7 202 k) := qs_gp 6 10 rfl (by decide) (fun _ _ => rfl) hl hd h
theorem fp_202 (hi : ini = true) (hl : Cond.fieldLink "SealedRecordsModel" index "SealedRecordsModel" "drafted" "[I" ∈ q_W0) (hd : decode cc pc = .ok (.putfield index, 3)) (h : qa_S l "SealedRecordsModel" cc nL ret ini D E B R sc Qf (pc + 3) k) : qa_S l "SealedRecordsModel" cc nL ret ini D E B R sc Qf pc (qi_pp 7 202 k) := qs_ppF 6 10 rfl (by decide) (fun _ _ => rfl) (fun _ => rfl) (fun _ => rfl) rfl hi rfl hl hd h
theorem fg_203 (hl : Cond.fieldLink own index "SealedRecordsModel" "waits" "[I" ∈ q_W0) (hd : decode cc pc = .ok (.getfield index, 3)) (h : qa_S l own cc nL ret ini D E B R sc Qf (pc + 3) k) : qa_S l own cc nL ret ini D E B R sc Qf pc (qi_gp 7 203 k) := qs_gp 6 11 rfl (by decide) (fun _ _ => rfl) hl hd h
theorem fp_203 (hi : ini = true) (hl : Cond.fieldLink "SealedRecordsModel" index "SealedRecordsModel" "waits" "[I" ∈ q_W0) (hd : decode cc pc = .ok (.putfield index, 3)) (h : qa_S l "SealedRecordsModel" cc nL ret ini D E B R sc Qf (pc + 3) k) : qa_S l "SealedRecordsModel" cc nL ret ini D E B R sc Qf pc (qi_pp 7 203 k) := qs_ppF 6 11 rfl (by decide) (fun _ _ => rfl) (fun _ => rfl) (fun _ => rfl) rfl hi rfl hl hd h
theorem fg_204 (hl : Cond.fieldLink own index "SealedRecordsModel" "type" "[I" ∈ q_W0) (hd : decode cc pc = .ok (.getfield index, 3)) (h : qa_S l own cc nL ret ini D E B R sc Qf (pc + 3) k) : qa_S l own cc nL ret ini D E B R sc Qf pc (qi_gp 7 204 k) := qs_gp 6 12 rfl (by decide) (fun _ _ => rfl) hl hd h
theorem fp_204 (hi : ini = true) (hl : Cond.fieldLink "SealedRecordsModel" index "SealedRecordsModel" "type" "[I" ∈ q_W0) (hd : decode cc pc = .ok (.putfield index, 3)) (h : qa_S l "SealedRecordsModel" cc nL ret ini D E B R sc Qf (pc + 3) k) : qa_S l "SealedRecordsModel" cc nL ret ini D E B R sc Qf pc (qi_pp 7 204 k) := qs_ppF 6 12 rfl (by decide) (fun _ _ => rfl) (fun _ => rfl) (fun _ => rfl) rfl hi rfl hl hd h
theorem fg_205 (hl : Cond.fieldLink own index "SealedRecordsModel" "size" "[I" ∈ q_W0) (hd : decode cc pc = .ok (.getfield index, 3)) (h : qa_S l own cc nL ret ini D E B R sc Qf (pc + 3) k) : qa_S l own cc nL ret ini D E B R sc Qf pc (qi_gp 7 205 k) := qs_gp 6 13 rfl (by decide) (fun _ _ => rfl) hl hd h
theorem fp_205 (hi : ini = true) (hl : Cond.fieldLink "SealedRecordsModel" index "SealedRecordsModel" "size" "[I" ∈ q_W0) (hd : decode cc pc = .ok (.putfield index, 3)) (h : qa_S l "SealedRecordsModel" cc nL ret ini D E B R sc Qf (pc + 3) k) : qa_S l "SealedRecordsModel" cc nL ret ini D E B R sc Qf pc (qi_pp 7 205 k) := qs_ppF 6 13 rfl (by decide) (fun _ _ => rfl) (fun _ => rfl) (fun _ => rfl) rfl hi rfl hl hd h
theorem fg_206 (hl : Cond.fieldLink own index "SealedRecordsModel" "payload" "[I" ∈ q_W0) (hd : decode cc pc = .ok (.getfield index, 3)) (h : qa_S l own cc nL ret ini D E B R sc Qf (pc + 3) k) : qa_S l own cc nL ret ini D E B R sc Qf pc (qi_gp 7 206 k) := qs_gp 6 14 rfl (by decide) (fun _ _ => rfl) hl hd h
theorem fp_206 (hi : ini = true) (hl : Cond.fieldLink "SealedRecordsModel" index "SealedRecordsModel" "payload" "[I" ∈ q_W0) (hd : decode cc pc = .ok (.putfield index, 3)) (h : qa_S l "SealedRecordsModel" cc nL ret ini D E B R sc Qf (pc + 3) k) : qa_S l "SealedRecordsModel" cc nL ret ini D E B R sc Qf pc (qi_pp 7 206 k) := qs_ppF 6 14 rfl (by decide) (fun _ _ => rfl) (fun _ => rfl) (fun _ => rfl) rfl hi rfl hl hd h
theorem fg_207 (hl : Cond.fieldLink own index "SealedRecordsModel" "held" "[I" ∈ q_W0) (hd : decode cc pc = .ok (.getfield index, 3)) (h : qa_S l own cc nL ret ini D E B R sc Qf (pc + 3) k) : qa_S l own cc nL ret ini D E B R sc Qf pc (qi_gp 7 207 k) := qs_gp 6 15 rfl (by decide) (fun _ _ => rfl) hl hd h
theorem fp_207 (hi : ini = true) (hl : Cond.fieldLink "SealedRecordsModel" index "SealedRecordsModel" "held" "[I" ∈ q_W0) (hd : decode cc pc = .ok (.putfield index, 3)) (h : qa_S l "SealedRecordsModel" cc nL ret ini D E B R sc Qf (pc + 3) k) : qa_S l "SealedRecordsModel" cc nL ret ini D E B R sc Qf pc (qi_pp 7 207 k) := qs_ppF 6 15 rfl (by decide) (fun _ _ => rfl) (fun _ => rfl) (fun _ => rfl) rfl hi rfl hl hd h
theorem fg_208 (hl : Cond.fieldLink own index "SealedRecordsModel" "itemType" "[I" ∈ q_W0) (hd : decode cc pc = .ok (.getfield index, 3)) (h : qa_S l own cc nL ret ini D E B R sc Qf (pc + 3) k) : qa_S l own cc nL ret ini D E B R sc Qf pc (qi_gp 7 208 k) := qs_gp 6 16 rfl (by decide) (fun _ _ => rfl) hl hd h
theorem fp_208 (hi : ini = true) (hl : Cond.fieldLink "SealedRecordsModel" index "SealedRecordsModel" "itemType" "[I" ∈ q_W0) (hd : decode cc pc = .ok (.putfield index, 3)) (h : qa_S l "SealedRecordsModel" cc nL ret ini D E B R sc Qf (pc + 3) k) : qa_S l "SealedRecordsModel" cc nL ret ini D E B R sc Qf pc (qi_pp 7 208 k) := qs_ppF 6 16 rfl (by decide) (fun _ _ => rfl) (fun _ => rfl) (fun _ => rfl) rfl hi rfl hl hd h
theorem fg_209 (hl : Cond.fieldLink own index "SealedRecordsModel" "itemSize" "[I" ∈ q_W0) (hd : decode cc pc = .ok (.getfield index, 3)) (h : qa_S l own cc nL ret ini D E B R sc Qf (pc + 3) k) : qa_S l own cc nL ret ini D E B R sc Qf pc (qi_gp 7 209 k) := qs_gp 6 17 rfl (by decide) (fun _ _ => rfl) hl hd h
theorem fp_209 (hi : ini = true) (hl : Cond.fieldLink "SealedRecordsModel" index "SealedRecordsModel" "itemSize" "[I" ∈ q_W0) (hd : decode cc pc = .ok (.putfield index, 3)) (h : qa_S l "SealedRecordsModel" cc nL ret ini D E B R sc Qf (pc + 3) k) : qa_S l "SealedRecordsModel" cc nL ret ini D E B R sc Qf pc (qi_pp 7 209 k) := qs_ppF 6 17 rfl (by decide) (fun _ _ => rfl) (fun _ => rfl) (fun _ => rfl) rfl hi rfl hl hd h
theorem fg_210 (hl : Cond.fieldLink own index "SealedRecordsModel" "itemBytes" "[I" ∈ q_W0) (hd : decode cc pc = .ok (.getfield index, 3)) (h : qa_S l own cc nL ret ini D E B R sc Qf (pc + 3) k) : qa_S l own cc nL ret ini D E B R sc Qf pc (qi_gp 7 210 k) := qs_gp 6 18 rfl (by decide) (fun _ _ => rfl) hl hd h
theorem fp_210 (hi : ini = true) (hl : Cond.fieldLink "SealedRecordsModel" index "SealedRecordsModel" "itemBytes" "[I" ∈ q_W0) (hd : decode cc pc = .ok (.putfield index, 3)) (h : qa_S l "SealedRecordsModel" cc nL ret ini D E B R sc Qf (pc + 3) k) : qa_S l "SealedRecordsModel" cc nL ret ini D E B R sc Qf pc (qi_pp 7 210 k) := qs_ppF 6 18 rfl (by decide) (fun _ _ => rfl) (fun _ => rfl) (fun _ => rfl) rfl hi rfl hl hd h
theorem fg_211 (hl : Cond.fieldLink own index "SealedRecordsModel" "open" "[I" ∈ q_W0) (hd : decode cc pc = .ok (.getfield index, 3)) (h : qa_S l own cc nL ret ini D E B R sc Qf (pc + 3) k) : qa_S l own cc nL ret ini D E B R sc Qf pc (qi_gp 7 211 k) := qs_gp 6 19 rfl (by decide) (fun _ _ => rfl) hl hd h
theorem fp_211 (hi : ini = true) (hl : Cond.fieldLink "SealedRecordsModel" index "SealedRecordsModel" "open" "[I" ∈ q_W0) (hd : decode cc pc = .ok (.putfield index, 3)) (h : qa_S l "SealedRecordsModel" cc nL ret ini D E B R sc Qf (pc + 3) k) : qa_S l "SealedRecordsModel" cc nL ret ini D E B R sc Qf pc (qi_pp 7 211 k) := qs_ppF 6 19 rfl (by decide) (fun _ _ => rfl) (fun _ => rfl) (fun _ => rfl) rfl hi rfl hl hd h
theorem fg_212 (hl : Cond.fieldLink own index "SealedRecordsModel" "message" "[I" ∈ q_W0) (hd : decode cc pc = .ok (.getfield index, 3)) (h : qa_S l own cc nL ret ini D E B R sc Qf (pc + 3) k) : qa_S l own cc nL ret ini D E B R sc Qf pc (qi_gp 7 212 k) := qs_gp 6 20 rfl (by decide) (fun _ _ => rfl) hl hd h
theorem fp_212 (hi : ini = true) (hl : Cond.fieldLink "SealedRecordsModel" index "SealedRecordsModel" "message" "[I" ∈ q_W0) (hd : decode cc pc = .ok (.putfield index, 3)) (h : qa_S l "SealedRecordsModel" cc nL ret ini D E B R sc Qf (pc + 3) k) : qa_S l "SealedRecordsModel" cc nL ret ini D E B R sc Qf pc (qi_pp 7 212 k) := qs_ppF 6 20 rfl (by decide) (fun _ _ => rfl) (fun _ => rfl) (fun _ => rfl) rfl hi rfl hl hd h
theorem fg_213 (hl : Cond.fieldLink own index "SealedRecordsModel" "inner" "I" ∈ q_W0) (hd : decode cc pc = .ok (.getfield index, 3)) (h : qa_S l own cc nL ret ini D E B R sc Qf (pc + 3) k) : qa_S l own cc nL ret ini D E B R sc Qf pc (qi_gi 7 213 k) := qs_gi 6 21 rfl (by decide) (fun _ _ => rfl) hl hd h
theorem fp_213 (hl : Cond.fieldLink own index "SealedRecordsModel" "inner" "I" ∈ q_W0) (hd : decode cc pc = .ok (.putfield index, 3)) (h : qa_S l own cc nL ret ini D E B R sc Qf (pc + 3) k) : qa_S l own cc nL ret ini D E B R sc Qf pc (qi_pi 7 213 k) := qs_pi 6 21 rfl (by decide) (fun _ _ => rfl) (fun _ => rfl) (fun _ => rfl) rfl hl hd h
theorem fg_214 (hl : Cond.fieldLink own index "SealedRecordsModel" "contentSize" "I" ∈ q_W0) (hd : decode cc pc = .ok (.getfield index, 3)) (h : qa_S l own cc nL ret ini D E B R sc Qf (pc + 3) k) : qa_S l own cc nL ret ini D E B R sc Qf pc (qi_gi 7 214 k) := qs_gi 6 22 rfl (by decide) (fun _ _ => rfl) hl hd h
theorem fp_214 (hl : Cond.fieldLink own index "SealedRecordsModel" "contentSize" "I" ∈ q_W0) (hd : decode cc pc = .ok (.putfield index, 3)) (h : qa_S l own cc nL ret ini D E B R sc Qf (pc + 3) k) : qa_S l own cc nL ret ini D E B R sc Qf pc (qi_pi 7 214 k) := qs_pi 6 22 rfl (by decide) (fun _ _ => rfl) (fun _ => rfl) (fun _ => rfl) rfl hl hd h
theorem fg_215 (hl : Cond.fieldLink own index "SealedRecordsModel" "content" "[I" ∈ q_W0) (hd : decode cc pc = .ok (.getfield index, 3)) (h : qa_S l own cc nL ret ini D E B R sc Qf (pc + 3) k) : qa_S l own cc nL ret ini D E B R sc Qf pc (qi_gp 7 215 k) := qs_gp 6 23 rfl (by decide) (fun _ _ => rfl) hl hd h
theorem fp_215 (hi : ini = true) (hl : Cond.fieldLink "SealedRecordsModel" index "SealedRecordsModel" "content" "[I" ∈ q_W0) (hd : decode cc pc = .ok (.putfield index, 3)) (h : qa_S l "SealedRecordsModel" cc nL ret ini D E B R sc Qf (pc + 3) k) : qa_S l "SealedRecordsModel" cc nL ret ini D E B R sc Qf pc (qi_pp 7 215 k) := qs_ppF 6 23 rfl (by decide) (fun _ _ => rfl) (fun _ => rfl) (fun _ => rfl) rfl hi rfl hl hd h
theorem fg_216 (hl : Cond.fieldLink own index "SealedRecordsModel" "changeEnd" "I" ∈ q_W0) (hd : decode cc pc = .ok (.getfield index, 3)) (h : qa_S l own cc nL ret ini D E B R sc Qf (pc + 3) k) : qa_S l own cc nL ret ini D E B R sc Qf pc (qi_gi 7 216 k) := qs_gi 6 24 rfl (by decide) (fun _ _ => rfl) hl hd h
theorem fp_216 (hl : Cond.fieldLink own index "SealedRecordsModel" "changeEnd" "I" ∈ q_W0) (hd : decode cc pc = .ok (.putfield index, 3)) (h : qa_S l own cc nL ret ini D E B R sc Qf (pc + 3) k) : qa_S l own cc nL ret ini D E B R sc Qf pc (qi_pi 7 216 k) := qs_pi 6 24 rfl (by decide) (fun _ _ => rfl) (fun _ => rfl) (fun _ => rfl) rfl hl hd h
theorem fg_217 (hl : Cond.fieldLink own index "SealedRecordsModel" "changeLength" "I" ∈ q_W0) (hd : decode cc pc = .ok (.getfield index, 3)) (h : qa_S l own cc nL ret ini D E B R sc Qf (pc + 3) k) : qa_S l own cc nL ret ini D E B R sc Qf pc (qi_gi 7 217 k) := qs_gi 6 25 rfl (by decide) (fun _ _ => rfl) hl hd h
theorem fp_217 (hl : Cond.fieldLink own index "SealedRecordsModel" "changeLength" "I" ∈ q_W0) (hd : decode cc pc = .ok (.putfield index, 3)) (h : qa_S l own cc nL ret ini D E B R sc Qf (pc + 3) k) : qa_S l own cc nL ret ini D E B R sc Qf pc (qi_pi 7 217 k) := qs_pi 6 25 rfl (by decide) (fun _ _ => rfl) (fun _ => rfl) (fun _ => rfl) rfl hl hd h
theorem fg_218 (hl : Cond.fieldLink own index "SealedRecordsModel" "changeBody" "I" ∈ q_W0) (hd : decode cc pc = .ok (.getfield index, 3)) (h : qa_S l own cc nL ret ini D E B R sc Qf (pc + 3) k) : qa_S l own cc nL ret ini D E B R sc Qf pc (qi_gi 7 218 k) := qs_gi 6 26 rfl (by decide) (fun _ _ => rfl) hl hd h
theorem fp_218 (hl : Cond.fieldLink own index "SealedRecordsModel" "changeBody" "I" ∈ q_W0) (hd : decode cc pc = .ok (.putfield index, 3)) (h : qa_S l own cc nL ret ini D E B R sc Qf (pc + 3) k) : qa_S l own cc nL ret ini D E B R sc Qf pc (qi_pi 7 218 k) := qs_pi 6 26 rfl (by decide) (fun _ _ => rfl) (fun _ => rfl) (fun _ => rfl) rfl hl hd h
theorem fg_219 (hl : Cond.fieldLink own index "SealedRecordsModel" "rest" "I" ∈ q_W0) (hd : decode cc pc = .ok (.getfield index, 3)) (h : qa_S l own cc nL ret ini D E B R sc Qf (pc + 3) k) : qa_S l own cc nL ret ini D E B R sc Qf pc (qi_gi 7 219 k) := qs_gi 6 27 rfl (by decide) (fun _ _ => rfl) hl hd h
theorem fp_219 (hl : Cond.fieldLink own index "SealedRecordsModel" "rest" "I" ∈ q_W0) (hd : decode cc pc = .ok (.putfield index, 3)) (h : qa_S l own cc nL ret ini D E B R sc Qf (pc + 3) k) : qa_S l own cc nL ret ini D E B R sc Qf pc (qi_pi 7 219 k) := qs_pi 6 27 rfl (by decide) (fun _ _ => rfl) (fun _ => rfl) (fun _ => rfl) rfl hl hd h
theorem qa_dv (M : qa_M) (a b f : Nat) : ∀ ty : FieldType, ty ≠ .float → ty ≠ .double → defaultValue ty = qa_fv ty (qa_nw M b a) f a := by
  intro ty h1 h2
  cases ty <;> first | exact absurd rfl h1 | exact absurd rfl h2 | simp [qa_fv, defaultValue, qa_i_nw, qa_j_nw, qa_p_nw, va_rf]
theorem qn_0 : ∀ j, j < 2 → q_ty 0 j ≠ .float ∧ q_ty 0 j ≠ .double := by decide +kernel
theorem fn_0 (hcl : Cond.classLink own index "SealedRecords" ∈ q_W0) (hd : decode cc pc = .ok (.new index, 3)) (h : qa_S l own cc nL ret ini D E B R sc Qf (pc + 3) k) : qa_S l own cc nL ret ini D E B R sc Qf pc (qi_new 1 2 (R.cells, R.slots) k) := qs_new 0 rfl hcl ww_0 ww_1 (fun M a b j hj => qa_dv M a b _ _ (qn_0 j hj).1 (qn_0 j hj).2) hd h
theorem qn_1 : ∀ j, j < 3 → q_ty 1 j ≠ .float ∧ q_ty 1 j ≠ .double := by decide +kernel
theorem fn_1 (hcl : Cond.classLink own index "SealedRecords$Packet" ∈ q_W0) (hd : decode cc pc = .ok (.new index, 3)) (h : qa_S l own cc nL ret ini D E B R sc Qf (pc + 3) k) : qa_S l own cc nL ret ini D E B R sc Qf pc (qi_new 2 3 (R.cells, R.slots) k) := qs_new 1 rfl hcl ww_2 ww_3 (fun M a b j hj => qa_dv M a b _ _ (qn_1 j hj).1 (qn_1 j hj).2) hd h
theorem qn_2 : ∀ j, j < 2 → q_ty 2 j ≠ .float ∧ q_ty 2 j ≠ .double := by decide +kernel
theorem fn_2 (hcl : Cond.classLink own index "SealedRecords$Row" ∈ q_W0) (hd : decode cc pc = .ok (.new index, 3)) (h : qa_S l own cc nL ret ini D E B R sc Qf (pc + 3) k) : qa_S l own cc nL ret ini D E B R sc Qf pc (qi_new 3 2 (R.cells, R.slots) k) := qs_new 2 rfl hcl ww_4 ww_5 (fun M a b j hj => qa_dv M a b _ _ (qn_2 j hj).1 (qn_2 j hj).2) hd h
theorem qn_3 : ∀ j, j < 4 → q_ty 3 j ≠ .float ∧ q_ty 3 j ≠ .double := by decide +kernel
theorem fn_3 (hcl : Cond.classLink own index "SealedRecords$Side" ∈ q_W0) (hd : decode cc pc = .ok (.new index, 3)) (h : qa_S l own cc nL ret ini D E B R sc Qf (pc + 3) k) : qa_S l own cc nL ret ini D E B R sc Qf pc (qi_new 4 4 (R.cells, R.slots) k) := qs_new 3 rfl hcl ww_6 ww_7 (fun M a b j hj => qa_dv M a b _ _ (qn_3 j hj).1 (qn_3 j hj).2) hd h
theorem qn_4 : ∀ j, j < 3 → q_ty 4 j ≠ .float ∧ q_ty 4 j ≠ .double := by decide +kernel
theorem fn_4 (hcl : Cond.classLink own index "SealedRecords$Messages" ∈ q_W0) (hd : decode cc pc = .ok (.new index, 3)) (h : qa_S l own cc nL ret ini D E B R sc Qf (pc + 3) k) : qa_S l own cc nL ret ini D E B R sc Qf pc (qi_new 5 3 (R.cells, R.slots) k) := qs_new 4 rfl hcl ww_8 ww_9 (fun M a b j hj => qa_dv M a b _ _ (qn_4 j hj).1 (qn_4 j hj).2) hd h
theorem qn_5 : ∀ j, j < 13 → q_ty 5 j ≠ .float ∧ q_ty 5 j ≠ .double := by decide +kernel
theorem fn_5 (hcl : Cond.classLink own index "SealedRecords$End" ∈ q_W0) (hd : decode cc pc = .ok (.new index, 3)) (h : qa_S l own cc nL ret ini D E B R sc Qf (pc + 3) k) : qa_S l own cc nL ret ini D E B R sc Qf pc (qi_new 6 13 (R.cells, R.slots) k) := qs_new 5 rfl hcl ww_10 ww_11 (fun M a b j hj => qa_dv M a b _ _ (qn_5 j hj).1 (qn_5 j hj).2) hd h
theorem qn_6 : ∀ j, j < 28 → q_ty 6 j ≠ .float ∧ q_ty 6 j ≠ .double := by decide +kernel
theorem fn_6 (hcl : Cond.classLink own index "SealedRecordsModel" ∈ q_W0) (hd : decode cc pc = .ok (.new index, 3)) (h : qa_S l own cc nL ret ini D E B R sc Qf (pc + 3) k) : qa_S l own cc nL ret ini D E B R sc Qf pc (qi_new 7 28 (R.cells, R.slots) k) := qs_new 6 rfl hcl ww_12 ww_13 (fun M a b j hj => qa_dv M a b _ _ (qn_6 j hj).1 (qn_6 j hj).2) hd h
end QF
theorem qa_t10 {P : Nat → qa_K → Prop} {k0 k1 k2 k3 k4 k5 k6 k7 k8 k9 : qa_K} (p0 : P 0 k0) (p1 : P 1 k1) (p2 : P 2 k2) (p3 : P 3 k3) (p4 : P 4 k4) (p5 : P 5 k5) (p6 : P 6 k6) (p7 : P 7 k7) (p8 : P 8 k8) (p9 : P 9 k9) : ∀ (j : Nat) (k : qa_K), [k0, k1, k2, k3, k4, k5, k6, k7, k8, k9][j]? = some k → P j k := by
  intro j k h
  match j, h with
  | 0, h => cases h; exact p0
  | 1, h => cases h; exact p1
  | 2, h => cases h; exact p2
  | 3, h => cases h; exact p3
  | 4, h => cases h; exact p4
  | 5, h => cases h; exact p5
  | 6, h => cases h; exact p6
  | 7, h => cases h; exact p7
  | 8, h => cases h; exact p8
  | 9, h => cases h; exact p9
  | n + 10, h => simp at h
theorem qa_t18 {P : Nat → qa_K → Prop} {k0 k1 k2 k3 k4 k5 k6 k7 k8 k9 k10 k11 k12 k13 k14 k15 k16 k17 : qa_K} (p0 : P 0 k0) (p1 : P 1 k1) (p2 : P 2 k2) (p3 : P 3 k3) (p4 : P 4 k4) (p5 : P 5 k5) (p6 : P 6 k6) (p7 : P 7 k7) (p8 : P 8 k8) (p9 : P 9 k9) (p10 : P 10 k10) (p11 : P 11 k11) (p12 : P 12 k12) (p13 : P 13 k13) (p14 : P 14 k14) (p15 : P 15 k15) (p16 : P 16 k16) (p17 : P 17 k17) : ∀ (j : Nat) (k : qa_K), [k0, k1, k2, k3, k4, k5, k6, k7, k8, k9, k10, k11, k12, k13, k14, k15, k16, k17][j]? = some k → P j k := by
  intro j k h
  match j, h with
  | 0, h => cases h; exact p0
  | 1, h => cases h; exact p1
  | 2, h => cases h; exact p2
  | 3, h => cases h; exact p3
  | 4, h => cases h; exact p4
  | 5, h => cases h; exact p5
  | 6, h => cases h; exact p6
  | 7, h => cases h; exact p7
  | 8, h => cases h; exact p8
  | 9, h => cases h; exact p9
  | 10, h => cases h; exact p10
  | 11, h => cases h; exact p11
  | 12, h => cases h; exact p12
  | 13, h => cases h; exact p13
  | 14, h => cases h; exact p14
  | 15, h => cases h; exact p15
  | 16, h => cases h; exact p16
  | 17, h => cases h; exact p17
  | n + 18, h => simp at h
