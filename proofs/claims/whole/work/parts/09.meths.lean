abbrev b_Rd_open : ByteArray := prog_7_method_2_code
def y_Rd_open : MethodName := ⟨"FrameUnwinder$Reader", "open", "(II)V"⟩
theorem hd_Rd_open : y_Rd_open.cls = "FrameUnwinder$Reader" ∧ y_Rd_open.cls ≠ "java/lang/invoke/MethodHandle" ∧ y_Rd_open.cls ≠ "java/lang/invoke/VarHandle" ∧ (parseMethodDescriptor y_Rd_open.desc).map (fun d => d.parameters.length) = some 2 := by decide +kernel
abbrev b_Rd_unsigned : ByteArray := prog_7_method_3_code
def y_Rd_unsigned : MethodName := ⟨"FrameUnwinder$Reader", "unsigned", "(I)I"⟩
theorem hd_Rd_unsigned : y_Rd_unsigned.cls = "FrameUnwinder$Reader" ∧ y_Rd_unsigned.cls ≠ "java/lang/invoke/MethodHandle" ∧ y_Rd_unsigned.cls ≠ "java/lang/invoke/VarHandle" ∧ (parseMethodDescriptor y_Rd_unsigned.desc).map (fun d => d.parameters.length) = some 1 := by decide +kernel
abbrev b_Rd_signed : ByteArray := prog_7_method_4_code
def y_Rd_signed : MethodName := ⟨"FrameUnwinder$Reader", "signed", "(I)I"⟩
theorem hd_Rd_signed : y_Rd_signed.cls = "FrameUnwinder$Reader" ∧ y_Rd_signed.cls ≠ "java/lang/invoke/MethodHandle" ∧ y_Rd_signed.cls ≠ "java/lang/invoke/VarHandle" ∧ (parseMethodDescriptor y_Rd_signed.desc).map (fun d => d.parameters.length) = some 1 := by decide +kernel
abbrev b_Rd_uleb : ByteArray := prog_7_method_5_code
def y_Rd_uleb : MethodName := ⟨"FrameUnwinder$Reader", "uleb", "()I"⟩
theorem hd_Rd_uleb : y_Rd_uleb.cls = "FrameUnwinder$Reader" ∧ y_Rd_uleb.cls ≠ "java/lang/invoke/MethodHandle" ∧ y_Rd_uleb.cls ≠ "java/lang/invoke/VarHandle" ∧ (parseMethodDescriptor y_Rd_uleb.desc).map (fun d => d.parameters.length) = some 0 := by decide +kernel
abbrev b_Rd_sleb : ByteArray := prog_7_method_6_code
def y_Rd_sleb : MethodName := ⟨"FrameUnwinder$Reader", "sleb", "()I"⟩
theorem hd_Rd_sleb : y_Rd_sleb.cls = "FrameUnwinder$Reader" ∧ y_Rd_sleb.cls ≠ "java/lang/invoke/MethodHandle" ∧ y_Rd_sleb.cls ≠ "java/lang/invoke/VarHandle" ∧ (parseMethodDescriptor y_Rd_sleb.desc).map (fun d => d.parameters.length) = some 0 := by decide +kernel
abbrev b_Rd_skip : ByteArray := prog_7_method_7_code
def y_Rd_skip : MethodName := ⟨"FrameUnwinder$Reader", "skip", "(I)V"⟩
theorem hd_Rd_skip : y_Rd_skip.cls = "FrameUnwinder$Reader" ∧ y_Rd_skip.cls ≠ "java/lang/invoke/MethodHandle" ∧ y_Rd_skip.cls ≠ "java/lang/invoke/VarHandle" ∧ (parseMethodDescriptor y_Rd_skip.desc).map (fun d => d.parameters.length) = some 1 := by decide +kernel
abbrev b_Se_append : ByteArray := prog_10_method_2_code
def y_Se_append : MethodName := ⟨"FrameUnwinder$Section", "append", "(I)V"⟩
theorem hd_Se_append : y_Se_append.cls = "FrameUnwinder$Section" ∧ y_Se_append.cls ≠ "java/lang/invoke/MethodHandle" ∧ y_Se_append.cls ≠ "java/lang/invoke/VarHandle" ∧ (parseMethodDescriptor y_Se_append.desc).map (fun d => d.parameters.length) = some 1 := by decide +kernel
abbrev b_Se_replace : ByteArray := prog_10_method_3_code
def y_Se_replace : MethodName := ⟨"FrameUnwinder$Section", "replace", "(II)I"⟩
theorem hd_Se_replace : y_Se_replace.cls = "FrameUnwinder$Section" ∧ y_Se_replace.cls ≠ "java/lang/invoke/MethodHandle" ∧ y_Se_replace.cls ≠ "java/lang/invoke/VarHandle" ∧ (parseMethodDescriptor y_Se_replace.desc).map (fun d => d.parameters.length) = some 2 := by decide +kernel
abbrev b_En_covers : ByteArray := prog_2_method_2_code
def y_En_covers : MethodName := ⟨"FrameUnwinder$Entry", "covers", "(I)Z"⟩
theorem hd_En_covers : y_En_covers.cls = "FrameUnwinder$Entry" ∧ y_En_covers.cls ≠ "java/lang/invoke/MethodHandle" ∧ y_En_covers.cls ≠ "java/lang/invoke/VarHandle" ∧ (parseMethodDescriptor y_En_covers.desc).map (fun d => d.parameters.length) = some 1 := by decide +kernel
abbrev b_Me_has : ByteArray := prog_6_method_2_code
def y_Me_has : MethodName := ⟨"FrameUnwinder$Memory", "has", "(I)Z"⟩
theorem hd_Me_has : y_Me_has.cls = "FrameUnwinder$Memory" ∧ y_Me_has.cls ≠ "java/lang/invoke/MethodHandle" ∧ y_Me_has.cls ≠ "java/lang/invoke/VarHandle" ∧ (parseMethodDescriptor y_Me_has.desc).map (fun d => d.parameters.length) = some 1 := by decide +kernel
abbrev b_Me_load : ByteArray := prog_6_method_3_code
def y_Me_load : MethodName := ⟨"FrameUnwinder$Memory", "load", "(I)I"⟩
theorem hd_Me_load : y_Me_load.cls = "FrameUnwinder$Memory" ∧ y_Me_load.cls ≠ "java/lang/invoke/MethodHandle" ∧ y_Me_load.cls ≠ "java/lang/invoke/VarHandle" ∧ (parseMethodDescriptor y_Me_load.desc).map (fun d => d.parameters.length) = some 1 := by decide +kernel
abbrev b_Me_store : ByteArray := prog_6_method_4_code
def y_Me_store : MethodName := ⟨"FrameUnwinder$Memory", "store", "(II)V"⟩
theorem hd_Me_store : y_Me_store.cls = "FrameUnwinder$Memory" ∧ y_Me_store.cls ≠ "java/lang/invoke/MethodHandle" ∧ y_Me_store.cls ≠ "java/lang/invoke/VarHandle" ∧ (parseMethodDescriptor y_Me_store.desc).map (fun d => d.parameters.length) = some 2 := by decide +kernel
abbrev b_Fr_place : ByteArray := prog_3_method_2_code
def y_Fr_place : MethodName := ⟨"FrameUnwinder$Frame", "place", "()I"⟩
theorem hd_Fr_place : y_Fr_place.cls = "FrameUnwinder$Frame" ∧ y_Fr_place.cls ≠ "java/lang/invoke/MethodHandle" ∧ y_Fr_place.cls ≠ "java/lang/invoke/VarHandle" ∧ (parseMethodDescriptor y_Fr_place.desc).map (fun d => d.parameters.length) = some 0 := by decide +kernel
abbrev b_Fr_knows : ByteArray := prog_3_method_3_code
def y_Fr_knows : MethodName := ⟨"FrameUnwinder$Frame", "knows", "(I)Z"⟩
theorem hd_Fr_knows : y_Fr_knows.cls = "FrameUnwinder$Frame" ∧ y_Fr_knows.cls ≠ "java/lang/invoke/MethodHandle" ∧ y_Fr_knows.cls ≠ "java/lang/invoke/VarHandle" ∧ (parseMethodDescriptor y_Fr_knows.desc).map (fun d => d.parameters.length) = some 1 := by decide +kernel
abbrev b_Fr_learn : ByteArray := prog_3_method_4_code
def y_Fr_learn : MethodName := ⟨"FrameUnwinder$Frame", "learn", "(II)V"⟩
theorem hd_Fr_learn : y_Fr_learn.cls = "FrameUnwinder$Frame" ∧ y_Fr_learn.cls ≠ "java/lang/invoke/MethodHandle" ∧ y_Fr_learn.cls ≠ "java/lang/invoke/VarHandle" ∧ (parseMethodDescriptor y_Fr_learn.desc).map (fun d => d.parameters.length) = some 2 := by decide +kernel
abbrev b_Fr_forget : ByteArray := prog_3_method_5_code
def y_Fr_forget : MethodName := ⟨"FrameUnwinder$Frame", "forget", "(I)V"⟩
theorem hd_Fr_forget : y_Fr_forget.cls = "FrameUnwinder$Frame" ∧ y_Fr_forget.cls ≠ "java/lang/invoke/MethodHandle" ∧ y_Fr_forget.cls ≠ "java/lang/invoke/VarHandle" ∧ (parseMethodDescriptor y_Fr_forget.desc).map (fun d => d.parameters.length) = some 1 := by decide +kernel
abbrev b_Fr_takeRegisters : ByteArray := prog_3_method_6_code
def y_Fr_takeRegisters : MethodName := ⟨"FrameUnwinder$Frame", "takeRegisters", "(LFrameUnwinder$Frame;)V"⟩
theorem hd_Fr_takeRegisters : y_Fr_takeRegisters.cls = "FrameUnwinder$Frame" ∧ y_Fr_takeRegisters.cls ≠ "java/lang/invoke/MethodHandle" ∧ y_Fr_takeRegisters.cls ≠ "java/lang/invoke/VarHandle" ∧ (parseMethodDescriptor y_Fr_takeRegisters.desc).map (fun d => d.parameters.length) = some 1 := by decide +kernel
abbrev b_In_readBlock : ByteArray := prog_4_method_4_code
def y_In_readBlock : MethodName := ⟨"FrameUnwinder$Instruction", "readBlock", "(LFrameUnwinder$Reader;)V"⟩
theorem hd_In_readBlock : y_In_readBlock.cls = "FrameUnwinder$Instruction" ∧ y_In_readBlock.cls ≠ "java/lang/invoke/MethodHandle" ∧ y_In_readBlock.cls ≠ "java/lang/invoke/VarHandle" ∧ (parseMethodDescriptor y_In_readBlock.desc).map (fun d => d.parameters.length) = some 1 := by decide +kernel
abbrev b_In_readOperands : ByteArray := prog_4_method_3_code
def y_In_readOperands : MethodName := ⟨"FrameUnwinder$Instruction", "readOperands", "(LFrameUnwinder$Reader;)Z"⟩
theorem hd_In_readOperands : y_In_readOperands.cls = "FrameUnwinder$Instruction" ∧ y_In_readOperands.cls ≠ "java/lang/invoke/MethodHandle" ∧ y_In_readOperands.cls ≠ "java/lang/invoke/VarHandle" ∧ (parseMethodDescriptor y_In_readOperands.desc).map (fun d => d.parameters.length) = some 1 := by decide +kernel
abbrev b_In_readFrom : ByteArray := prog_4_method_2_code
def y_In_readFrom : MethodName := ⟨"FrameUnwinder$Instruction", "readFrom", "(LFrameUnwinder$Reader;)Z"⟩
theorem hd_In_readFrom : y_In_readFrom.cls = "FrameUnwinder$Instruction" ∧ y_In_readFrom.cls ≠ "java/lang/invoke/MethodHandle" ∧ y_In_readFrom.cls ≠ "java/lang/invoke/VarHandle" ∧ (parseMethodDescriptor y_In_readFrom.desc).map (fun d => d.parameters.length) = some 1 := by decide +kernel
abbrev b_In_mayStandInCommon : ByteArray := prog_4_method_5_code
def y_In_mayStandInCommon : MethodName := ⟨"FrameUnwinder$Instruction", "mayStandInCommon", "()Z"⟩
theorem hd_In_mayStandInCommon : y_In_mayStandInCommon.cls = "FrameUnwinder$Instruction" ∧ y_In_mayStandInCommon.cls ≠ "java/lang/invoke/MethodHandle" ∧ y_In_mayStandInCommon.cls ≠ "java/lang/invoke/VarHandle" ∧ (parseMethodDescriptor y_In_mayStandInCommon.desc).map (fun d => d.parameters.length) = some 0 := by decide +kernel
abbrev b_Ro_put : ByteArray := prog_9_method_3_code
def y_Ro_put : MethodName := ⟨"FrameUnwinder$Row", "put", "(IIII)V"⟩
theorem hd_Ro_put : y_Ro_put.cls = "FrameUnwinder$Row" ∧ y_Ro_put.cls ≠ "java/lang/invoke/MethodHandle" ∧ y_Ro_put.cls ≠ "java/lang/invoke/VarHandle" ∧ (parseMethodDescriptor y_Ro_put.desc).map (fun d => d.parameters.length) = some 4 := by decide +kernel
abbrev b_Ro_reset : ByteArray := prog_9_method_2_code
def y_Ro_reset : MethodName := ⟨"FrameUnwinder$Row", "reset", "(I)V"⟩
theorem hd_Ro_reset : y_Ro_reset.cls = "FrameUnwinder$Row" ∧ y_Ro_reset.cls ≠ "java/lang/invoke/MethodHandle" ∧ y_Ro_reset.cls ≠ "java/lang/invoke/VarHandle" ∧ (parseMethodDescriptor y_Ro_reset.desc).map (fun d => d.parameters.length) = some 1 := by decide +kernel
abbrev b_Ro_putCfa : ByteArray := prog_9_method_6_code
def y_Ro_putCfa : MethodName := ⟨"FrameUnwinder$Row", "putCfa", "(II)V"⟩
theorem hd_Ro_putCfa : y_Ro_putCfa.cls = "FrameUnwinder$Row" ∧ y_Ro_putCfa.cls ≠ "java/lang/invoke/MethodHandle" ∧ y_Ro_putCfa.cls ≠ "java/lang/invoke/VarHandle" ∧ (parseMethodDescriptor y_Ro_putCfa.desc).map (fun d => d.parameters.length) = some 2 := by decide +kernel
abbrev b_Ro_cfaRegister : ByteArray := prog_9_method_7_code
def y_Ro_cfaRegister : MethodName := ⟨"FrameUnwinder$Row", "cfaRegister", "()I"⟩
theorem hd_Ro_cfaRegister : y_Ro_cfaRegister.cls = "FrameUnwinder$Row" ∧ y_Ro_cfaRegister.cls ≠ "java/lang/invoke/MethodHandle" ∧ y_Ro_cfaRegister.cls ≠ "java/lang/invoke/VarHandle" ∧ (parseMethodDescriptor y_Ro_cfaRegister.desc).map (fun d => d.parameters.length) = some 0 := by decide +kernel
abbrev b_Ro_cfaNumber : ByteArray := prog_9_method_8_code
def y_Ro_cfaNumber : MethodName := ⟨"FrameUnwinder$Row", "cfaNumber", "()I"⟩
theorem hd_Ro_cfaNumber : y_Ro_cfaNumber.cls = "FrameUnwinder$Row" ∧ y_Ro_cfaNumber.cls ≠ "java/lang/invoke/MethodHandle" ∧ y_Ro_cfaNumber.cls ≠ "java/lang/invoke/VarHandle" ∧ (parseMethodDescriptor y_Ro_cfaNumber.desc).map (fun d => d.parameters.length) = some 0 := by decide +kernel
abbrev b_Ro_part : ByteArray := prog_9_method_9_code
def y_Ro_part : MethodName := ⟨"FrameUnwinder$Row", "part", "(II)I"⟩
theorem hd_Ro_part : y_Ro_part.cls = "FrameUnwinder$Row" ∧ y_Ro_part.cls ≠ "java/lang/invoke/MethodHandle" ∧ y_Ro_part.cls ≠ "java/lang/invoke/VarHandle" ∧ (parseMethodDescriptor y_Ro_part.desc).map (fun d => d.parameters.length) = some 2 := by decide +kernel
abbrev b_Ro_copyFrom : ByteArray := prog_9_method_4_code
def y_Ro_copyFrom : MethodName := ⟨"FrameUnwinder$Row", "copyFrom", "(LFrameUnwinder$Row;)V"⟩
theorem hd_Ro_copyFrom : y_Ro_copyFrom.cls = "FrameUnwinder$Row" ∧ y_Ro_copyFrom.cls ≠ "java/lang/invoke/MethodHandle" ∧ y_Ro_copyFrom.cls ≠ "java/lang/invoke/VarHandle" ∧ (parseMethodDescriptor y_Ro_copyFrom.desc).map (fun d => d.parameters.length) = some 1 := by decide +kernel
abbrev b_Ro_copyRule : ByteArray := prog_9_method_5_code
def y_Ro_copyRule : MethodName := ⟨"FrameUnwinder$Row", "copyRule", "(LFrameUnwinder$Row;I)V"⟩
theorem hd_Ro_copyRule : y_Ro_copyRule.cls = "FrameUnwinder$Row" ∧ y_Ro_copyRule.cls ≠ "java/lang/invoke/MethodHandle" ∧ y_Ro_copyRule.cls ≠ "java/lang/invoke/VarHandle" ∧ (parseMethodDescriptor y_Ro_copyRule.desc).map (fun d => d.parameters.length) = some 2 := by decide +kernel
abbrev b_Rk_isSmall : ByteArray := prog_8_method_9_code
def y_Rk_isSmall : MethodName := ⟨"FrameUnwinder$Reckoner", "isSmall", "(I)Z"⟩
theorem hd_Rk_isSmall : y_Rk_isSmall.cls = "FrameUnwinder$Reckoner" ∧ y_Rk_isSmall.cls ≠ "java/lang/invoke/MethodHandle" ∧ y_Rk_isSmall.cls ≠ "java/lang/invoke/VarHandle" ∧ (parseMethodDescriptor y_Rk_isSmall.desc).map (fun d => d.parameters.length) = some 1 := by decide +kernel
abbrev b_Rk_isRegister : ByteArray := prog_8_method_10_code
def y_Rk_isRegister : MethodName := ⟨"FrameUnwinder$Reckoner", "isRegister", "(I)Z"⟩
theorem hd_Rk_isRegister : y_Rk_isRegister.cls = "FrameUnwinder$Reckoner" ∧ y_Rk_isRegister.cls ≠ "java/lang/invoke/MethodHandle" ∧ y_Rk_isRegister.cls ≠ "java/lang/invoke/VarHandle" ∧ (parseMethodDescriptor y_Rk_isRegister.desc).map (fun d => d.parameters.length) = some 1 := by decide +kernel
abbrev b_Rk_depthOfCopy : ByteArray := prog_8_method_13_code
def y_Rk_depthOfCopy : MethodName := ⟨"FrameUnwinder$Reckoner", "depthOfCopy", "(II)I"⟩
theorem hd_Rk_depthOfCopy : y_Rk_depthOfCopy.cls = "FrameUnwinder$Reckoner" ∧ y_Rk_depthOfCopy.cls ≠ "java/lang/invoke/MethodHandle" ∧ y_Rk_depthOfCopy.cls ≠ "java/lang/invoke/VarHandle" ∧ (parseMethodDescriptor y_Rk_depthOfCopy.desc).map (fun d => d.parameters.length) = some 2 := by decide +kernel
abbrev b_Rk_neededBy : ByteArray := prog_8_method_12_code
def y_Rk_neededBy : MethodName := ⟨"FrameUnwinder$Reckoner", "neededBy", "(III)I"⟩
theorem hd_Rk_neededBy : y_Rk_neededBy.cls = "FrameUnwinder$Reckoner" ∧ y_Rk_neededBy.cls ≠ "java/lang/invoke/MethodHandle" ∧ y_Rk_neededBy.cls ≠ "java/lang/invoke/VarHandle" ∧ (parseMethodDescriptor y_Rk_neededBy.desc).map (fun d => d.parameters.length) = some 3 := by decide +kernel
abbrev b_Rk_shifted : ByteArray := prog_8_method_18_code
def y_Rk_shifted : MethodName := ⟨"FrameUnwinder$Reckoner", "shifted", "(III)I"⟩
theorem hd_Rk_shifted : y_Rk_shifted.cls = "FrameUnwinder$Reckoner" ∧ y_Rk_shifted.cls ≠ "java/lang/invoke/MethodHandle" ∧ y_Rk_shifted.cls ≠ "java/lang/invoke/VarHandle" ∧ (parseMethodDescriptor y_Rk_shifted.desc).map (fun d => d.parameters.length) = some 3 := by decide +kernel
abbrev b_Rk_joined : ByteArray := prog_8_method_17_code
def y_Rk_joined : MethodName := ⟨"FrameUnwinder$Reckoner", "joined", "(III)I"⟩
theorem hd_Rk_joined : y_Rk_joined.cls = "FrameUnwinder$Reckoner" ∧ y_Rk_joined.cls ≠ "java/lang/invoke/MethodHandle" ∧ y_Rk_joined.cls ≠ "java/lang/invoke/VarHandle" ∧ (parseMethodDescriptor y_Rk_joined.desc).map (fun d => d.parameters.length) = some 3 := by decide +kernel
abbrev b_Rk_compared : ByteArray := prog_8_method_19_code
def y_Rk_compared : MethodName := ⟨"FrameUnwinder$Reckoner", "compared", "(III)I"⟩
theorem hd_Rk_compared : y_Rk_compared.cls = "FrameUnwinder$Reckoner" ∧ y_Rk_compared.cls ≠ "java/lang/invoke/MethodHandle" ∧ y_Rk_compared.cls ≠ "java/lang/invoke/VarHandle" ∧ (parseMethodDescriptor y_Rk_compared.desc).map (fun d => d.parameters.length) = some 3 := by decide +kernel
abbrev b_Rk_clear : ByteArray := prog_8_method_2_code
def y_Rk_clear : MethodName := ⟨"FrameUnwinder$Reckoner", "clear", "()V"⟩
theorem hd_Rk_clear : y_Rk_clear.cls = "FrameUnwinder$Reckoner" ∧ y_Rk_clear.cls ≠ "java/lang/invoke/MethodHandle" ∧ y_Rk_clear.cls ≠ "java/lang/invoke/VarHandle" ∧ (parseMethodDescriptor y_Rk_clear.desc).map (fun d => d.parameters.length) = some 0 := by decide +kernel
abbrev b_Rk_push : ByteArray := prog_8_method_4_code
def y_Rk_push : MethodName := ⟨"FrameUnwinder$Reckoner", "push", "(I)V"⟩
theorem hd_Rk_push : y_Rk_push.cls = "FrameUnwinder$Reckoner" ∧ y_Rk_push.cls ≠ "java/lang/invoke/MethodHandle" ∧ y_Rk_push.cls ≠ "java/lang/invoke/VarHandle" ∧ (parseMethodDescriptor y_Rk_push.desc).map (fun d => d.parameters.length) = some 1 := by decide +kernel
abbrev b_Rk_giveCfa : ByteArray := prog_8_method_3_code
def y_Rk_giveCfa : MethodName := ⟨"FrameUnwinder$Reckoner", "giveCfa", "(I)V"⟩
theorem hd_Rk_giveCfa : y_Rk_giveCfa.cls = "FrameUnwinder$Reckoner" ∧ y_Rk_giveCfa.cls ≠ "java/lang/invoke/MethodHandle" ∧ y_Rk_giveCfa.cls ≠ "java/lang/invoke/VarHandle" ∧ (parseMethodDescriptor y_Rk_giveCfa.desc).map (fun d => d.parameters.length) = some 1 := by decide +kernel
abbrev b_Rk_top : ByteArray := prog_8_method_5_code
def y_Rk_top : MethodName := ⟨"FrameUnwinder$Reckoner", "top", "()I"⟩
theorem hd_Rk_top : y_Rk_top.cls = "FrameUnwinder$Reckoner" ∧ y_Rk_top.cls ≠ "java/lang/invoke/MethodHandle" ∧ y_Rk_top.cls ≠ "java/lang/invoke/VarHandle" ∧ (parseMethodDescriptor y_Rk_top.desc).map (fun d => d.parameters.length) = some 0 := by decide +kernel
abbrev b_Rk_familyOf : ByteArray := prog_8_method_8_code
def y_Rk_familyOf : MethodName := ⟨"FrameUnwinder$Reckoner", "familyOf", "(I)I"⟩
theorem hd_Rk_familyOf : y_Rk_familyOf.cls = "FrameUnwinder$Reckoner" ∧ y_Rk_familyOf.cls ≠ "java/lang/invoke/MethodHandle" ∧ y_Rk_familyOf.cls ≠ "java/lang/invoke/VarHandle" ∧ (parseMethodDescriptor y_Rk_familyOf.desc).map (fun d => d.parameters.length) = some 1 := by decide +kernel
abbrev b_Rk_operandOf : ByteArray := prog_8_method_11_code
def y_Rk_operandOf : MethodName := ⟨"FrameUnwinder$Reckoner", "operandOf", "(I)I"⟩
theorem hd_Rk_operandOf : y_Rk_operandOf.cls = "FrameUnwinder$Reckoner" ∧ y_Rk_operandOf.cls ≠ "java/lang/invoke/MethodHandle" ∧ y_Rk_operandOf.cls ≠ "java/lang/invoke/VarHandle" ∧ (parseMethodDescriptor y_Rk_operandOf.desc).map (fun d => d.parameters.length) = some 1 := by decide +kernel
abbrev b_Rk_pushFor : ByteArray := prog_8_method_14_code
def y_Rk_pushFor : MethodName := ⟨"FrameUnwinder$Reckoner", "pushFor", "(II)I"⟩
theorem hd_Rk_pushFor : y_Rk_pushFor.cls = "FrameUnwinder$Reckoner" ∧ y_Rk_pushFor.cls ≠ "java/lang/invoke/MethodHandle" ∧ y_Rk_pushFor.cls ≠ "java/lang/invoke/VarHandle" ∧ (parseMethodDescriptor y_Rk_pushFor.desc).map (fun d => d.parameters.length) = some 2 := by decide +kernel
abbrev b_Rk_changeTop : ByteArray := prog_8_method_15_code
def y_Rk_changeTop : MethodName := ⟨"FrameUnwinder$Reckoner", "changeTop", "(II)I"⟩
theorem hd_Rk_changeTop : y_Rk_changeTop.cls = "FrameUnwinder$Reckoner" ∧ y_Rk_changeTop.cls ≠ "java/lang/invoke/MethodHandle" ∧ y_Rk_changeTop.cls ≠ "java/lang/invoke/VarHandle" ∧ (parseMethodDescriptor y_Rk_changeTop.desc).map (fun d => d.parameters.length) = some 2 := by decide +kernel
abbrev b_Rk_joinTwo : ByteArray := prog_8_method_16_code
def y_Rk_joinTwo : MethodName := ⟨"FrameUnwinder$Reckoner", "joinTwo", "(I)I"⟩
theorem hd_Rk_joinTwo : y_Rk_joinTwo.cls = "FrameUnwinder$Reckoner" ∧ y_Rk_joinTwo.cls ≠ "java/lang/invoke/MethodHandle" ∧ y_Rk_joinTwo.cls ≠ "java/lang/invoke/VarHandle" ∧ (parseMethodDescriptor y_Rk_joinTwo.desc).map (fun d => d.parameters.length) = some 1 := by decide +kernel
abbrev b_Rk_move : ByteArray := prog_8_method_20_code
def y_Rk_move : MethodName := ⟨"FrameUnwinder$Reckoner", "move", "(I)I"⟩
theorem hd_Rk_move : y_Rk_move.cls = "FrameUnwinder$Reckoner" ∧ y_Rk_move.cls ≠ "java/lang/invoke/MethodHandle" ∧ y_Rk_move.cls ≠ "java/lang/invoke/VarHandle" ∧ (parseMethodDescriptor y_Rk_move.desc).map (fun d => d.parameters.length) = some 1 := by decide +kernel
abbrev b_Rk_jump : ByteArray := prog_8_method_21_code
def y_Rk_jump : MethodName := ⟨"FrameUnwinder$Reckoner", "jump", "(II)I"⟩
theorem hd_Rk_jump : y_Rk_jump.cls = "FrameUnwinder$Reckoner" ∧ y_Rk_jump.cls ≠ "java/lang/invoke/MethodHandle" ∧ y_Rk_jump.cls ≠ "java/lang/invoke/VarHandle" ∧ (parseMethodDescriptor y_Rk_jump.desc).map (fun d => d.parameters.length) = some 2 := by decide +kernel
abbrev b_Rk_doOne : ByteArray := prog_8_method_7_code
def y_Rk_doOne : MethodName := ⟨"FrameUnwinder$Reckoner", "doOne", "()I"⟩
theorem hd_Rk_doOne : y_Rk_doOne.cls = "FrameUnwinder$Reckoner" ∧ y_Rk_doOne.cls ≠ "java/lang/invoke/MethodHandle" ∧ y_Rk_doOne.cls ≠ "java/lang/invoke/VarHandle" ∧ (parseMethodDescriptor y_Rk_doOne.desc).map (fun d => d.parameters.length) = some 0 := by decide +kernel
abbrev b_Rk_run : ByteArray := prog_8_method_6_code
def y_Rk_run : MethodName := ⟨"FrameUnwinder$Reckoner", "run", "(III)I"⟩
theorem hd_Rk_run : y_Rk_run.cls = "FrameUnwinder$Reckoner" ∧ y_Rk_run.cls ≠ "java/lang/invoke/MethodHandle" ∧ y_Rk_run.cls ≠ "java/lang/invoke/VarHandle" ∧ (parseMethodDescriptor y_Rk_run.desc).map (fun d => d.parameters.length) = some 3 := by decide +kernel
abbrev b_La_indexAt : ByteArray := prog_5_method_3_code
def y_La_indexAt : MethodName := ⟨"FrameUnwinder$Layout", "indexAt", "(I)I"⟩
theorem hd_La_indexAt : y_La_indexAt.cls = "FrameUnwinder$Layout" ∧ y_La_indexAt.cls ≠ "java/lang/invoke/MethodHandle" ∧ y_La_indexAt.cls ≠ "java/lang/invoke/VarHandle" ∧ (parseMethodDescriptor y_La_indexAt.desc).map (fun d => d.parameters.length) = some 1 := by decide +kernel
abbrev b_La_commonAt : ByteArray := prog_5_method_5_code
def y_La_commonAt : MethodName := ⟨"FrameUnwinder$Layout", "commonAt", "(I)I"⟩
theorem hd_La_commonAt : y_La_commonAt.cls = "FrameUnwinder$Layout" ∧ y_La_commonAt.cls ≠ "java/lang/invoke/MethodHandle" ∧ y_La_commonAt.cls ≠ "java/lang/invoke/VarHandle" ∧ (parseMethodDescriptor y_La_commonAt.desc).map (fun d => d.parameters.length) = some 1 := by decide +kernel
abbrev b_La_commonFault : ByteArray := prog_5_method_6_code
def y_La_commonFault : MethodName := ⟨"FrameUnwinder$Layout", "commonFault", "(LFrameUnwinder$Entry;)I"⟩
theorem hd_La_commonFault : y_La_commonFault.cls = "FrameUnwinder$Layout" ∧ y_La_commonFault.cls ≠ "java/lang/invoke/MethodHandle" ∧ y_La_commonFault.cls ≠ "java/lang/invoke/VarHandle" ∧ (parseMethodDescriptor y_La_commonFault.desc).map (fun d => d.parameters.length) = some 1 := by decide +kernel
abbrev b_La_frameFault : ByteArray := prog_5_method_7_code
def y_La_frameFault : MethodName := ⟨"FrameUnwinder$Layout", "frameFault", "(LFrameUnwinder$Entry;)I"⟩
theorem hd_La_frameFault : y_La_frameFault.cls = "FrameUnwinder$Layout" ∧ y_La_frameFault.cls ≠ "java/lang/invoke/MethodHandle" ∧ y_La_frameFault.cls ≠ "java/lang/invoke/VarHandle" ∧ (parseMethodDescriptor y_La_frameFault.desc).map (fun d => d.parameters.length) = some 1 := by decide +kernel
abbrev b_La_headFault : ByteArray := prog_5_method_4_code
def y_La_headFault : MethodName := ⟨"FrameUnwinder$Layout", "headFault", "(LFrameUnwinder$Entry;I)I"⟩
theorem hd_La_headFault : y_La_headFault.cls = "FrameUnwinder$Layout" ∧ y_La_headFault.cls ≠ "java/lang/invoke/MethodHandle" ∧ y_La_headFault.cls ≠ "java/lang/invoke/VarHandle" ∧ (parseMethodDescriptor y_La_headFault.desc).map (fun d => d.parameters.length) = some 2 := by decide +kernel
abbrev b_La_instructionsFault : ByteArray := prog_5_method_8_code
def y_La_instructionsFault : MethodName := ⟨"FrameUnwinder$Layout", "instructionsFault", "(LFrameUnwinder$Entry;)I"⟩
theorem hd_La_instructionsFault : y_La_instructionsFault.cls = "FrameUnwinder$Layout" ∧ y_La_instructionsFault.cls ≠ "java/lang/invoke/MethodHandle" ∧ y_La_instructionsFault.cls ≠ "java/lang/invoke/VarHandle" ∧ (parseMethodDescriptor y_La_instructionsFault.desc).map (fun d => d.parameters.length) = some 1 := by decide +kernel
abbrev b_La_firstFault : ByteArray := prog_5_method_2_code
def y_La_firstFault : MethodName := ⟨"FrameUnwinder$Layout", "firstFault", "()I"⟩
theorem hd_La_firstFault : y_La_firstFault.cls = "FrameUnwinder$Layout" ∧ y_La_firstFault.cls ≠ "java/lang/invoke/MethodHandle" ∧ y_La_firstFault.cls ≠ "java/lang/invoke/VarHandle" ∧ (parseMethodDescriptor y_La_firstFault.desc).map (fun d => d.parameters.length) = some 0 := by decide +kernel
abbrev b_Ij_compare : ByteArray := prog_18_method_40_code
def y_Ij_compare : MethodName := ⟨"java/lang/Integer", "compare", "(II)I"⟩
theorem hd_Ij_compare : y_Ij_compare.cls = "java/lang/Integer" ∧ y_Ij_compare.cls ≠ "java/lang/invoke/MethodHandle" ∧ y_Ij_compare.cls ≠ "java/lang/invoke/VarHandle" ∧ (parseMethodDescriptor y_Ij_compare.desc).map (fun d => d.parameters.length) = some 2 := by decide +kernel
abbrev b_Ij_compareUnsigned : ByteArray := prog_18_method_41_code
def y_Ij_compareUnsigned : MethodName := ⟨"java/lang/Integer", "compareUnsigned", "(II)I"⟩
theorem hd_Ij_compareUnsigned : y_Ij_compareUnsigned.cls = "java/lang/Integer" ∧ y_Ij_compareUnsigned.cls ≠ "java/lang/invoke/MethodHandle" ∧ y_Ij_compareUnsigned.cls ≠ "java/lang/invoke/VarHandle" ∧ (parseMethodDescriptor y_Ij_compareUnsigned.desc).map (fun d => d.parameters.length) = some 2 := by decide +kernel
abbrev b_Tr_remember : ByteArray := prog_11_method_5_code
def y_Tr_remember : MethodName := ⟨"FrameUnwinder$Tracer", "remember", "()V"⟩
theorem hd_Tr_remember : y_Tr_remember.cls = "FrameUnwinder$Tracer" ∧ y_Tr_remember.cls ≠ "java/lang/invoke/MethodHandle" ∧ y_Tr_remember.cls ≠ "java/lang/invoke/VarHandle" ∧ (parseMethodDescriptor y_Tr_remember.desc).map (fun d => d.parameters.length) = some 0 := by decide +kernel
abbrev b_Tr_takeBack : ByteArray := prog_11_method_6_code
def y_Tr_takeBack : MethodName := ⟨"FrameUnwinder$Tracer", "takeBack", "()V"⟩
theorem hd_Tr_takeBack : y_Tr_takeBack.cls = "FrameUnwinder$Tracer" ∧ y_Tr_takeBack.cls ≠ "java/lang/invoke/MethodHandle" ∧ y_Tr_takeBack.cls ≠ "java/lang/invoke/VarHandle" ∧ (parseMethodDescriptor y_Tr_takeBack.desc).map (fun d => d.parameters.length) = some 0 := by decide +kernel
abbrev b_Tr_applyToCfa : ByteArray := prog_11_method_7_code
def y_Tr_applyToCfa : MethodName := ⟨"FrameUnwinder$Tracer", "applyToCfa", "(I)V"⟩
theorem hd_Tr_applyToCfa : y_Tr_applyToCfa.cls = "FrameUnwinder$Tracer" ∧ y_Tr_applyToCfa.cls ≠ "java/lang/invoke/MethodHandle" ∧ y_Tr_applyToCfa.cls ≠ "java/lang/invoke/VarHandle" ∧ (parseMethodDescriptor y_Tr_applyToCfa.desc).map (fun d => d.parameters.length) = some 1 := by decide +kernel
abbrev b_Tr_applyToRegister : ByteArray := prog_11_method_8_code
def y_Tr_applyToRegister : MethodName := ⟨"FrameUnwinder$Tracer", "applyToRegister", "(I)V"⟩
theorem hd_Tr_applyToRegister : y_Tr_applyToRegister.cls = "FrameUnwinder$Tracer" ∧ y_Tr_applyToRegister.cls ≠ "java/lang/invoke/MethodHandle" ∧ y_Tr_applyToRegister.cls ≠ "java/lang/invoke/VarHandle" ∧ (parseMethodDescriptor y_Tr_applyToRegister.desc).map (fun d => d.parameters.length) = some 1 := by decide +kernel
abbrev b_Tr_apply : ByteArray := prog_11_method_4_code
def y_Tr_apply : MethodName := ⟨"FrameUnwinder$Tracer", "apply", "(II)V"⟩
theorem hd_Tr_apply : y_Tr_apply.cls = "FrameUnwinder$Tracer" ∧ y_Tr_apply.cls ≠ "java/lang/invoke/MethodHandle" ∧ y_Tr_apply.cls ≠ "java/lang/invoke/VarHandle" ∧ (parseMethodDescriptor y_Tr_apply.desc).map (fun d => d.parameters.length) = some 2 := by decide +kernel
abbrev b_Tr_follow : ByteArray := prog_11_method_3_code
def y_Tr_follow : MethodName := ⟨"FrameUnwinder$Tracer", "follow", "(LFrameUnwinder$Entry;LFrameUnwinder$Entry;I)V"⟩
theorem hd_Tr_follow : y_Tr_follow.cls = "FrameUnwinder$Tracer" ∧ y_Tr_follow.cls ≠ "java/lang/invoke/MethodHandle" ∧ y_Tr_follow.cls ≠ "java/lang/invoke/VarHandle" ∧ (parseMethodDescriptor y_Tr_follow.desc).map (fun d => d.parameters.length) = some 3 := by decide +kernel
abbrev b_Tr_rowAt : ByteArray := prog_11_method_2_code
def y_Tr_rowAt : MethodName := ⟨"FrameUnwinder$Tracer", "rowAt", "(LFrameUnwinder$Entry;LFrameUnwinder$Entry;I)LFrameUnwinder$Row;"⟩
theorem hd_Tr_rowAt : y_Tr_rowAt.cls = "FrameUnwinder$Tracer" ∧ y_Tr_rowAt.cls ≠ "java/lang/invoke/MethodHandle" ∧ y_Tr_rowAt.cls ≠ "java/lang/invoke/VarHandle" ∧ (parseMethodDescriptor y_Tr_rowAt.desc).map (fun d => d.parameters.length) = some 3 := by decide +kernel
abbrev b_Fu_isFuel : ByteArray := prog_1_method_16_code
def y_Fu_isFuel : MethodName := ⟨"FrameUnwinder", "isFuel", "(I)Z"⟩
theorem hd_Fu_isFuel : y_Fu_isFuel.cls = "FrameUnwinder" ∧ y_Fu_isFuel.cls ≠ "java/lang/invoke/MethodHandle" ∧ y_Fu_isFuel.cls ≠ "java/lang/invoke/VarHandle" ∧ (parseMethodDescriptor y_Fu_isFuel.desc).map (fun d => d.parameters.length) = some 1 := by decide +kernel
abbrev b_Fu_fault : ByteArray := prog_1_method_5_code
def y_Fu_fault : MethodName := ⟨"FrameUnwinder", "fault", "()I"⟩
theorem hd_Fu_fault : y_Fu_fault.cls = "FrameUnwinder" ∧ y_Fu_fault.cls ≠ "java/lang/invoke/MethodHandle" ∧ y_Fu_fault.cls ≠ "java/lang/invoke/VarHandle" ∧ (parseMethodDescriptor y_Fu_fault.desc).map (fun d => d.parameters.length) = some 0 := by decide +kernel
abbrev b_Fu_entries : ByteArray := prog_1_method_6_code
def y_Fu_entries : MethodName := ⟨"FrameUnwinder", "entries", "()I"⟩
theorem hd_Fu_entries : y_Fu_entries.cls = "FrameUnwinder" ∧ y_Fu_entries.cls ≠ "java/lang/invoke/MethodHandle" ∧ y_Fu_entries.cls ≠ "java/lang/invoke/VarHandle" ∧ (parseMethodDescriptor y_Fu_entries.desc).map (fun d => d.parameters.length) = some 0 := by decide +kernel
abbrev b_Fu_start : ByteArray := prog_1_method_11_code
def y_Fu_start : MethodName := ⟨"FrameUnwinder", "start", "(I)V"⟩
theorem hd_Fu_start : y_Fu_start.cls = "FrameUnwinder" ∧ y_Fu_start.cls ≠ "java/lang/invoke/MethodHandle" ∧ y_Fu_start.cls ≠ "java/lang/invoke/VarHandle" ∧ (parseMethodDescriptor y_Fu_start.desc).map (fun d => d.parameters.length) = some 1 := by decide +kernel
abbrev b_Fu_value : ByteArray := prog_1_method_13_code
def y_Fu_value : MethodName := ⟨"FrameUnwinder", "value", "()I"⟩
theorem hd_Fu_value : y_Fu_value.cls = "FrameUnwinder" ∧ y_Fu_value.cls ≠ "java/lang/invoke/MethodHandle" ∧ y_Fu_value.cls ≠ "java/lang/invoke/VarHandle" ∧ (parseMethodDescriptor y_Fu_value.desc).map (fun d => d.parameters.length) = some 0 := by decide +kernel
abbrev b_Fu_reckonCfa : ByteArray := prog_1_method_17_code
def y_Fu_reckonCfa : MethodName := ⟨"FrameUnwinder", "reckonCfa", "(LFrameUnwinder$Row;I)I"⟩
theorem hd_Fu_reckonCfa : y_Fu_reckonCfa.cls = "FrameUnwinder" ∧ y_Fu_reckonCfa.cls ≠ "java/lang/invoke/MethodHandle" ∧ y_Fu_reckonCfa.cls ≠ "java/lang/invoke/VarHandle" ∧ (parseMethodDescriptor y_Fu_reckonCfa.desc).map (fun d => d.parameters.length) = some 2 := by decide +kernel
abbrev b_Fu_recoverRegister : ByteArray := prog_1_method_19_code
def y_Fu_recoverRegister : MethodName := ⟨"FrameUnwinder", "recoverRegister", "(II)I"⟩
theorem hd_Fu_recoverRegister : y_Fu_recoverRegister.cls = "FrameUnwinder" ∧ y_Fu_recoverRegister.cls ≠ "java/lang/invoke/MethodHandle" ∧ y_Fu_recoverRegister.cls ≠ "java/lang/invoke/VarHandle" ∧ (parseMethodDescriptor y_Fu_recoverRegister.desc).map (fun d => d.parameters.length) = some 2 := by decide +kernel
abbrev b_Fu_recoverWord : ByteArray := prog_1_method_20_code
def y_Fu_recoverWord : MethodName := ⟨"FrameUnwinder", "recoverWord", "(II)I"⟩
theorem hd_Fu_recoverWord : y_Fu_recoverWord.cls = "FrameUnwinder" ∧ y_Fu_recoverWord.cls ≠ "java/lang/invoke/MethodHandle" ∧ y_Fu_recoverWord.cls ≠ "java/lang/invoke/VarHandle" ∧ (parseMethodDescriptor y_Fu_recoverWord.desc).map (fun d => d.parameters.length) = some 2 := by decide +kernel
abbrev b_Fu_recoverReckoned : ByteArray := prog_1_method_21_code
def y_Fu_recoverReckoned : MethodName := ⟨"FrameUnwinder", "recoverReckoned", "(II)I"⟩
theorem hd_Fu_recoverReckoned : y_Fu_recoverReckoned.cls = "FrameUnwinder" ∧ y_Fu_recoverReckoned.cls ≠ "java/lang/invoke/MethodHandle" ∧ y_Fu_recoverReckoned.cls ≠ "java/lang/invoke/VarHandle" ∧ (parseMethodDescriptor y_Fu_recoverReckoned.desc).map (fun d => d.parameters.length) = some 2 := by decide +kernel
abbrev b_Fu_recover : ByteArray := prog_1_method_18_code
def y_Fu_recover : MethodName := ⟨"FrameUnwinder", "recover", "(LFrameUnwinder$Row;III)I"⟩
theorem hd_Fu_recover : y_Fu_recover.cls = "FrameUnwinder" ∧ y_Fu_recover.cls ≠ "java/lang/invoke/MethodHandle" ∧ y_Fu_recover.cls ≠ "java/lang/invoke/VarHandle" ∧ (parseMethodDescriptor y_Fu_recover.desc).map (fun d => d.parameters.length) = some 4 := by decide +kernel
abbrev b_Fu_goToCaller : ByteArray := prog_1_method_22_code
def y_Fu_goToCaller : MethodName := ⟨"FrameUnwinder", "goToCaller", "(I)I"⟩
theorem hd_Fu_goToCaller : y_Fu_goToCaller.cls = "FrameUnwinder" ∧ y_Fu_goToCaller.cls ≠ "java/lang/invoke/MethodHandle" ∧ y_Fu_goToCaller.cls ≠ "java/lang/invoke/VarHandle" ∧ (parseMethodDescriptor y_Fu_goToCaller.desc).map (fun d => d.parameters.length) = some 1 := by decide +kernel
abbrev b_Md_within : ByteArray := prog_13_method_3_code
def y_Md_within : MethodName := ⟨"FrameUnwinderModel", "within", "(III)Z"⟩
theorem hd_Md_within : y_Md_within.cls = "FrameUnwinderModel" ∧ y_Md_within.cls ≠ "java/lang/invoke/MethodHandle" ∧ y_Md_within.cls ≠ "java/lang/invoke/VarHandle" ∧ (parseMethodDescriptor y_Md_within.desc).map (fun d => d.parameters.length) = some 3 := by decide +kernel
abbrev b_Md_isAddress : ByteArray := prog_13_method_33_code
def y_Md_isAddress : MethodName := ⟨"FrameUnwinderModel", "isAddress", "(I)Z"⟩
theorem hd_Md_isAddress : y_Md_isAddress.cls = "FrameUnwinderModel" ∧ y_Md_isAddress.cls ≠ "java/lang/invoke/MethodHandle" ∧ y_Md_isAddress.cls ≠ "java/lang/invoke/VarHandle" ∧ (parseMethodDescriptor y_Md_isAddress.desc).map (fun d => d.parameters.length) = some 1 := by decide +kernel
abbrev b_Md_two : ByteArray := prog_13_method_34_code
def y_Md_two : MethodName := ⟨"FrameUnwinderModel", "two", "(III)I"⟩
theorem hd_Md_two : y_Md_two.cls = "FrameUnwinderModel" ∧ y_Md_two.cls ≠ "java/lang/invoke/MethodHandle" ∧ y_Md_two.cls ≠ "java/lang/invoke/VarHandle" ∧ (parseMethodDescriptor y_Md_two.desc).map (fun d => d.parameters.length) = some 3 := by decide +kernel
abbrev b_Md_isTwo : ByteArray := prog_13_method_35_code
def y_Md_isTwo : MethodName := ⟨"FrameUnwinderModel", "isTwo", "(I)Z"⟩
theorem hd_Md_isTwo : y_Md_isTwo.cls = "FrameUnwinderModel" ∧ y_Md_isTwo.cls ≠ "java/lang/invoke/MethodHandle" ∧ y_Md_isTwo.cls ≠ "java/lang/invoke/VarHandle" ∧ (parseMethodDescriptor y_Md_isTwo.desc).map (fun d => d.parameters.length) = some 1 := by decide +kernel
abbrev b_Md_thrown : ByteArray := prog_13_method_2_code
def y_Md_thrown : MethodName := ⟨"FrameUnwinderModel", "thrown", "()I"⟩
theorem hd_Md_thrown : y_Md_thrown.cls = "FrameUnwinderModel" ∧ y_Md_thrown.cls ≠ "java/lang/invoke/MethodHandle" ∧ y_Md_thrown.cls ≠ "java/lang/invoke/VarHandle" ∧ (parseMethodDescriptor y_Md_thrown.desc).map (fun d => d.parameters.length) = some 0 := by decide +kernel
abbrev b_Md_feed : ByteArray := prog_13_method_4_code
def y_Md_feed : MethodName := ⟨"FrameUnwinderModel", "feed", "(I)I"⟩
theorem hd_Md_feed : y_Md_feed.cls = "FrameUnwinderModel" ∧ y_Md_feed.cls ≠ "java/lang/invoke/MethodHandle" ∧ y_Md_feed.cls ≠ "java/lang/invoke/VarHandle" ∧ (parseMethodDescriptor y_Md_feed.desc).map (fun d => d.parameters.length) = some 1 := by decide +kernel
abbrev b_Md_end : ByteArray := prog_13_method_5_code
def y_Md_end : MethodName := ⟨"FrameUnwinderModel", "end", "(I)V"⟩
theorem hd_Md_end : y_Md_end.cls = "FrameUnwinderModel" ∧ y_Md_end.cls ≠ "java/lang/invoke/MethodHandle" ∧ y_Md_end.cls ≠ "java/lang/invoke/VarHandle" ∧ (parseMethodDescriptor y_Md_end.desc).map (fun d => d.parameters.length) = some 1 := by decide +kernel
abbrev b_Md_spoil : ByteArray := prog_13_method_6_code
def y_Md_spoil : MethodName := ⟨"FrameUnwinderModel", "spoil", "(II)I"⟩
theorem hd_Md_spoil : y_Md_spoil.cls = "FrameUnwinderModel" ∧ y_Md_spoil.cls ≠ "java/lang/invoke/MethodHandle" ∧ y_Md_spoil.cls ≠ "java/lang/invoke/VarHandle" ∧ (parseMethodDescriptor y_Md_spoil.desc).map (fun d => d.parameters.length) = some 2 := by decide +kernel
abbrev b_Md_unsigned : ByteArray := prog_13_method_7_code
def y_Md_unsigned : MethodName := ⟨"FrameUnwinderModel", "unsigned", "(I)I"⟩
theorem hd_Md_unsigned : y_Md_unsigned.cls = "FrameUnwinderModel" ∧ y_Md_unsigned.cls ≠ "java/lang/invoke/MethodHandle" ∧ y_Md_unsigned.cls ≠ "java/lang/invoke/VarHandle" ∧ (parseMethodDescriptor y_Md_unsigned.desc).map (fun d => d.parameters.length) = some 1 := by decide +kernel
abbrev b_Md_signed : ByteArray := prog_13_method_8_code
def y_Md_signed : MethodName := ⟨"FrameUnwinderModel", "signed", "(I)I"⟩
theorem hd_Md_signed : y_Md_signed.cls = "FrameUnwinderModel" ∧ y_Md_signed.cls ≠ "java/lang/invoke/MethodHandle" ∧ y_Md_signed.cls ≠ "java/lang/invoke/VarHandle" ∧ (parseMethodDescriptor y_Md_signed.desc).map (fun d => d.parameters.length) = some 1 := by decide +kernel
abbrev b_Md_leb : ByteArray := prog_13_method_9_code
def y_Md_leb : MethodName := ⟨"FrameUnwinderModel", "leb", "(Z)I"⟩
theorem hd_Md_leb : y_Md_leb.cls = "FrameUnwinderModel" ∧ y_Md_leb.cls ≠ "java/lang/invoke/MethodHandle" ∧ y_Md_leb.cls ≠ "java/lang/invoke/VarHandle" ∧ (parseMethodDescriptor y_Md_leb.desc).map (fun d => d.parameters.length) = some 1 := by decide +kernel
abbrev b_Md_rule : ByteArray := prog_13_method_10_code
def y_Md_rule : MethodName := ⟨"FrameUnwinderModel", "rule", "(IIII)V"⟩
theorem hd_Md_rule : y_Md_rule.cls = "FrameUnwinderModel" ∧ y_Md_rule.cls ≠ "java/lang/invoke/MethodHandle" ∧ y_Md_rule.cls ≠ "java/lang/invoke/VarHandle" ∧ (parseMethodDescriptor y_Md_rule.desc).map (fun d => d.parameters.length) = some 4 := by decide +kernel
abbrev b_Md_cfa : ByteArray := prog_13_method_12_code
def y_Md_cfa : MethodName := ⟨"FrameUnwinderModel", "cfa", "(III)V"⟩
theorem hd_Md_cfa : y_Md_cfa.cls = "FrameUnwinderModel" ∧ y_Md_cfa.cls ≠ "java/lang/invoke/MethodHandle" ∧ y_Md_cfa.cls ≠ "java/lang/invoke/VarHandle" ∧ (parseMethodDescriptor y_Md_cfa.desc).map (fun d => d.parameters.length) = some 3 := by decide +kernel
abbrev b_Md_restore : ByteArray := prog_13_method_11_code
def y_Md_restore : MethodName := ⟨"FrameUnwinderModel", "restore", "(I)V"⟩
theorem hd_Md_restore : y_Md_restore.cls = "FrameUnwinderModel" ∧ y_Md_restore.cls ≠ "java/lang/invoke/MethodHandle" ∧ y_Md_restore.cls ≠ "java/lang/invoke/VarHandle" ∧ (parseMethodDescriptor y_Md_restore.desc).map (fun d => d.parameters.length) = some 1 := by decide +kernel
abbrev b_Md_register_ : ByteArray := prog_13_method_13_code
def y_Md_register_ : MethodName := ⟨"FrameUnwinderModel", "register", "()I"⟩
theorem hd_Md_register_ : y_Md_register_.cls = "FrameUnwinderModel" ∧ y_Md_register_.cls ≠ "java/lang/invoke/MethodHandle" ∧ y_Md_register_.cls ≠ "java/lang/invoke/VarHandle" ∧ (parseMethodDescriptor y_Md_register_.desc).map (fun d => d.parameters.length) = some 0 := by decide +kernel
abbrev b_Md_block : ByteArray := prog_13_method_14_code
def y_Md_block : MethodName := ⟨"FrameUnwinderModel", "block", "(I)I"⟩
theorem hd_Md_block : y_Md_block.cls = "FrameUnwinderModel" ∧ y_Md_block.cls ≠ "java/lang/invoke/MethodHandle" ∧ y_Md_block.cls ≠ "java/lang/invoke/VarHandle" ∧ (parseMethodDescriptor y_Md_block.desc).map (fun d => d.parameters.length) = some 1 := by decide +kernel
abbrev b_Md_keepRow : ByteArray := prog_13_method_15_code
def y_Md_keepRow : MethodName := ⟨"FrameUnwinderModel", "keepRow", "()V"⟩
theorem hd_Md_keepRow : y_Md_keepRow.cls = "FrameUnwinderModel" ∧ y_Md_keepRow.cls ≠ "java/lang/invoke/MethodHandle" ∧ y_Md_keepRow.cls ≠ "java/lang/invoke/VarHandle" ∧ (parseMethodDescriptor y_Md_keepRow.desc).map (fun d => d.parameters.length) = some 0 := by decide +kernel
abbrev b_Md_bringBack : ByteArray := prog_13_method_16_code
def y_Md_bringBack : MethodName := ⟨"FrameUnwinderModel", "bringBack", "()V"⟩
theorem hd_Md_bringBack : y_Md_bringBack.cls = "FrameUnwinderModel" ∧ y_Md_bringBack.cls ≠ "java/lang/invoke/MethodHandle" ∧ y_Md_bringBack.cls ≠ "java/lang/invoke/VarHandle" ∧ (parseMethodDescriptor y_Md_bringBack.desc).map (fun d => d.parameters.length) = some 0 := by decide +kernel
abbrev b_Md_cfaInstruction : ByteArray := prog_13_method_18_code
def y_Md_cfaInstruction : MethodName := ⟨"FrameUnwinderModel", "cfaInstruction", "(II)V"⟩
theorem hd_Md_cfaInstruction : y_Md_cfaInstruction.cls = "FrameUnwinderModel" ∧ y_Md_cfaInstruction.cls ≠ "java/lang/invoke/MethodHandle" ∧ y_Md_cfaInstruction.cls ≠ "java/lang/invoke/VarHandle" ∧ (parseMethodDescriptor y_Md_cfaInstruction.desc).map (fun d => d.parameters.length) = some 2 := by decide +kernel
abbrev b_Md_registerInstruction : ByteArray := prog_13_method_19_code
def y_Md_registerInstruction : MethodName := ⟨"FrameUnwinderModel", "registerInstruction", "(II)V"⟩
theorem hd_Md_registerInstruction : y_Md_registerInstruction.cls = "FrameUnwinderModel" ∧ y_Md_registerInstruction.cls ≠ "java/lang/invoke/MethodHandle" ∧ y_Md_registerInstruction.cls ≠ "java/lang/invoke/VarHandle" ∧ (parseMethodDescriptor y_Md_registerInstruction.desc).map (fun d => d.parameters.length) = some 2 := by decide +kernel
abbrev b_Md_instruction : ByteArray := prog_13_method_17_code
def y_Md_instruction : MethodName := ⟨"FrameUnwinderModel", "instruction", "(I)V"⟩
theorem hd_Md_instruction : y_Md_instruction.cls = "FrameUnwinderModel" ∧ y_Md_instruction.cls ≠ "java/lang/invoke/MethodHandle" ∧ y_Md_instruction.cls ≠ "java/lang/invoke/VarHandle" ∧ (parseMethodDescriptor y_Md_instruction.desc).map (fun d => d.parameters.length) = some 1 := by decide +kernel
abbrev b_Md_begin : ByteArray := prog_13_method_20_code
def y_Md_begin : MethodName := ⟨"FrameUnwinderModel", "begin", "(I)V"⟩
theorem hd_Md_begin : y_Md_begin.cls = "FrameUnwinderModel" ∧ y_Md_begin.cls ≠ "java/lang/invoke/MethodHandle" ∧ y_Md_begin.cls ≠ "java/lang/invoke/VarHandle" ∧ (parseMethodDescriptor y_Md_begin.desc).map (fun d => d.parameters.length) = some 1 := by decide +kernel
abbrev b_Md_commonHead : ByteArray := prog_13_method_23_code
def y_Md_commonHead : MethodName := ⟨"FrameUnwinderModel", "commonHead", "(I)I"⟩
theorem hd_Md_commonHead : y_Md_commonHead.cls = "FrameUnwinderModel" ∧ y_Md_commonHead.cls ≠ "java/lang/invoke/MethodHandle" ∧ y_Md_commonHead.cls ≠ "java/lang/invoke/VarHandle" ∧ (parseMethodDescriptor y_Md_commonHead.desc).map (fun d => d.parameters.length) = some 1 := by decide +kernel
abbrev b_Md_frameHead : ByteArray := prog_13_method_24_code
def y_Md_frameHead : MethodName := ⟨"FrameUnwinderModel", "frameHead", "(I)I"⟩
theorem hd_Md_frameHead : y_Md_frameHead.cls = "FrameUnwinderModel" ∧ y_Md_frameHead.cls ≠ "java/lang/invoke/MethodHandle" ∧ y_Md_frameHead.cls ≠ "java/lang/invoke/VarHandle" ∧ (parseMethodDescriptor y_Md_frameHead.desc).map (fun d => d.parameters.length) = some 1 := by decide +kernel
abbrev b_Md_entry : ByteArray := prog_13_method_22_code
def y_Md_entry : MethodName := ⟨"FrameUnwinderModel", "entry", "(I)I"⟩
theorem hd_Md_entry : y_Md_entry.cls = "FrameUnwinderModel" ∧ y_Md_entry.cls ≠ "java/lang/invoke/MethodHandle" ∧ y_Md_entry.cls ≠ "java/lang/invoke/VarHandle" ∧ (parseMethodDescriptor y_Md_entry.desc).map (fun d => d.parameters.length) = some 1 := by decide +kernel
abbrev b_Md_look : ByteArray := prog_13_method_21_code
def y_Md_look : MethodName := ⟨"FrameUnwinderModel", "look", "()I"⟩
theorem hd_Md_look : y_Md_look.cls = "FrameUnwinderModel" ∧ y_Md_look.cls ≠ "java/lang/invoke/MethodHandle" ∧ y_Md_look.cls ≠ "java/lang/invoke/VarHandle" ∧ (parseMethodDescriptor y_Md_look.desc).map (fun d => d.parameters.length) = some 0 := by decide +kernel
abbrev b_Md_fault : ByteArray := prog_13_method_25_code
def y_Md_fault : MethodName := ⟨"FrameUnwinderModel", "fault", "()I"⟩
theorem hd_Md_fault : y_Md_fault.cls = "FrameUnwinderModel" ∧ y_Md_fault.cls ≠ "java/lang/invoke/MethodHandle" ∧ y_Md_fault.cls ≠ "java/lang/invoke/VarHandle" ∧ (parseMethodDescriptor y_Md_fault.desc).map (fun d => d.parameters.length) = some 0 := by decide +kernel
abbrev b_Md_entries : ByteArray := prog_13_method_26_code
def y_Md_entries : MethodName := ⟨"FrameUnwinderModel", "entries", "()I"⟩
theorem hd_Md_entries : y_Md_entries.cls = "FrameUnwinderModel" ∧ y_Md_entries.cls ≠ "java/lang/invoke/MethodHandle" ∧ y_Md_entries.cls ≠ "java/lang/invoke/VarHandle" ∧ (parseMethodDescriptor y_Md_entries.desc).map (fun d => d.parameters.length) = some 0 := by decide +kernel
abbrev b_Md_entryOf : ByteArray := prog_13_method_27_code
def y_Md_entryOf : MethodName := ⟨"FrameUnwinderModel", "entryOf", "(I)I"⟩
theorem hd_Md_entryOf : y_Md_entryOf.cls = "FrameUnwinderModel" ∧ y_Md_entryOf.cls ≠ "java/lang/invoke/MethodHandle" ∧ y_Md_entryOf.cls ≠ "java/lang/invoke/VarHandle" ∧ (parseMethodDescriptor y_Md_entryOf.desc).map (fun d => d.parameters.length) = some 1 := by decide +kernel
abbrev b_Md_find : ByteArray := prog_13_method_28_code
def y_Md_find : MethodName := ⟨"FrameUnwinderModel", "find", "(I)I"⟩
theorem hd_Md_find : y_Md_find.cls = "FrameUnwinderModel" ∧ y_Md_find.cls ≠ "java/lang/invoke/MethodHandle" ∧ y_Md_find.cls ≠ "java/lang/invoke/VarHandle" ∧ (parseMethodDescriptor y_Md_find.desc).map (fun d => d.parameters.length) = some 1 := by decide +kernel
abbrev b_Md_rowAt : ByteArray := prog_13_method_29_code
def y_Md_rowAt : MethodName := ⟨"FrameUnwinderModel", "rowAt", "(II)V"⟩
theorem hd_Md_rowAt : y_Md_rowAt.cls = "FrameUnwinderModel" ∧ y_Md_rowAt.cls ≠ "java/lang/invoke/MethodHandle" ∧ y_Md_rowAt.cls ≠ "java/lang/invoke/VarHandle" ∧ (parseMethodDescriptor y_Md_rowAt.desc).map (fun d => d.parameters.length) = some 2 := by decide +kernel
abbrev b_Md_row : ByteArray := prog_13_method_30_code
def y_Md_row : MethodName := ⟨"FrameUnwinderModel", "row", "(III)I"⟩
theorem hd_Md_row : y_Md_row.cls = "FrameUnwinderModel" ∧ y_Md_row.cls ≠ "java/lang/invoke/MethodHandle" ∧ y_Md_row.cls ≠ "java/lang/invoke/VarHandle" ∧ (parseMethodDescriptor y_Md_row.desc).map (fun d => d.parameters.length) = some 3 := by decide +kernel
abbrev b_Md_lacks : ByteArray := prog_13_method_31_code
def y_Md_lacks : MethodName := ⟨"FrameUnwinderModel", "lacks", "(I)Z"⟩
theorem hd_Md_lacks : y_Md_lacks.cls = "FrameUnwinderModel" ∧ y_Md_lacks.cls ≠ "java/lang/invoke/MethodHandle" ∧ y_Md_lacks.cls ≠ "java/lang/invoke/VarHandle" ∧ (parseMethodDescriptor y_Md_lacks.desc).map (fun d => d.parameters.length) = some 1 := by decide +kernel
abbrev b_Md_push : ByteArray := prog_13_method_32_code
def y_Md_push : MethodName := ⟨"FrameUnwinderModel", "push", "(I)Z"⟩
theorem hd_Md_push : y_Md_push.cls = "FrameUnwinderModel" ∧ y_Md_push.cls ≠ "java/lang/invoke/MethodHandle" ∧ y_Md_push.cls ≠ "java/lang/invoke/VarHandle" ∧ (parseMethodDescriptor y_Md_push.desc).map (fun d => d.parameters.length) = some 1 := by decide +kernel
abbrev b_Md_pushed : ByteArray := prog_13_method_36_code
def y_Md_pushed : MethodName := ⟨"FrameUnwinderModel", "pushed", "(I)I"⟩
theorem hd_Md_pushed : y_Md_pushed.cls = "FrameUnwinderModel" ∧ y_Md_pushed.cls ≠ "java/lang/invoke/MethodHandle" ∧ y_Md_pushed.cls ≠ "java/lang/invoke/VarHandle" ∧ (parseMethodDescriptor y_Md_pushed.desc).map (fun d => d.parameters.length) = some 1 := by decide +kernel
abbrev b_Md_jump : ByteArray := prog_13_method_38_code
def y_Md_jump : MethodName := ⟨"FrameUnwinderModel", "jump", "(II)I"⟩
theorem hd_Md_jump : y_Md_jump.cls = "FrameUnwinderModel" ∧ y_Md_jump.cls ≠ "java/lang/invoke/MethodHandle" ∧ y_Md_jump.cls ≠ "java/lang/invoke/VarHandle" ∧ (parseMethodDescriptor y_Md_jump.desc).map (fun d => d.parameters.length) = some 2 := by decide +kernel
abbrev b_Md_rearrange : ByteArray := prog_13_method_39_code
def y_Md_rearrange : MethodName := ⟨"FrameUnwinderModel", "rearrange", "(I)I"⟩
theorem hd_Md_rearrange : y_Md_rearrange.cls = "FrameUnwinderModel" ∧ y_Md_rearrange.cls ≠ "java/lang/invoke/MethodHandle" ∧ y_Md_rearrange.cls ≠ "java/lang/invoke/VarHandle" ∧ (parseMethodDescriptor y_Md_rearrange.desc).map (fun d => d.parameters.length) = some 1 := by decide +kernel
abbrev b_Md_operation : ByteArray := prog_13_method_37_code
def y_Md_operation : MethodName := ⟨"FrameUnwinderModel", "operation", "(IIZI)I"⟩
theorem hd_Md_operation : y_Md_operation.cls = "FrameUnwinderModel" ∧ y_Md_operation.cls ≠ "java/lang/invoke/MethodHandle" ∧ y_Md_operation.cls ≠ "java/lang/invoke/VarHandle" ∧ (parseMethodDescriptor y_Md_operation.desc).map (fun d => d.parameters.length) = some 4 := by decide +kernel
abbrev b_Md_evaluate : ByteArray := prog_13_method_40_code
def y_Md_evaluate : MethodName := ⟨"FrameUnwinderModel", "evaluate", "(IIIZI)I"⟩
theorem hd_Md_evaluate : y_Md_evaluate.cls = "FrameUnwinderModel" ∧ y_Md_evaluate.cls ≠ "java/lang/invoke/MethodHandle" ∧ y_Md_evaluate.cls ≠ "java/lang/invoke/VarHandle" ∧ (parseMethodDescriptor y_Md_evaluate.desc).map (fun d => d.parameters.length) = some 5 := by decide +kernel
abbrev b_Md_word : ByteArray := prog_13_method_41_code
def y_Md_word : MethodName := ⟨"FrameUnwinderModel", "word", "(II)V"⟩
theorem hd_Md_word : y_Md_word.cls = "FrameUnwinderModel" ∧ y_Md_word.cls ≠ "java/lang/invoke/MethodHandle" ∧ y_Md_word.cls ≠ "java/lang/invoke/VarHandle" ∧ (parseMethodDescriptor y_Md_word.desc).map (fun d => d.parameters.length) = some 2 := by decide +kernel
abbrev b_Md_register : ByteArray := prog_13_method_42_code
def y_Md_register : MethodName := ⟨"FrameUnwinderModel", "register", "(II)V"⟩
theorem hd_Md_register : y_Md_register.cls = "FrameUnwinderModel" ∧ y_Md_register.cls ≠ "java/lang/invoke/MethodHandle" ∧ y_Md_register.cls ≠ "java/lang/invoke/VarHandle" ∧ (parseMethodDescriptor y_Md_register.desc).map (fun d => d.parameters.length) = some 2 := by decide +kernel
abbrev b_Md_start : ByteArray := prog_13_method_43_code
def y_Md_start : MethodName := ⟨"FrameUnwinderModel", "start", "(I)V"⟩
theorem hd_Md_start : y_Md_start.cls = "FrameUnwinderModel" ∧ y_Md_start.cls ≠ "java/lang/invoke/MethodHandle" ∧ y_Md_start.cls ≠ "java/lang/invoke/VarHandle" ∧ (parseMethodDescriptor y_Md_start.desc).map (fun d => d.parameters.length) = some 1 := by decide +kernel
abbrev b_Md_reckon : ByteArray := prog_13_method_44_code
def y_Md_reckon : MethodName := ⟨"FrameUnwinderModel", "reckon", "(III)I"⟩
theorem hd_Md_reckon : y_Md_reckon.cls = "FrameUnwinderModel" ∧ y_Md_reckon.cls ≠ "java/lang/invoke/MethodHandle" ∧ y_Md_reckon.cls ≠ "java/lang/invoke/VarHandle" ∧ (parseMethodDescriptor y_Md_reckon.desc).map (fun d => d.parameters.length) = some 3 := by decide +kernel
abbrev b_Md_value : ByteArray := prog_13_method_45_code
def y_Md_value : MethodName := ⟨"FrameUnwinderModel", "value", "()I"⟩
theorem hd_Md_value : y_Md_value.cls = "FrameUnwinderModel" ∧ y_Md_value.cls ≠ "java/lang/invoke/MethodHandle" ∧ y_Md_value.cls ≠ "java/lang/invoke/VarHandle" ∧ (parseMethodDescriptor y_Md_value.desc).map (fun d => d.parameters.length) = some 0 := by decide +kernel
abbrev b_Md_readWord : ByteArray := prog_13_method_46_code
def y_Md_readWord : MethodName := ⟨"FrameUnwinderModel", "readWord", "(I)I"⟩
theorem hd_Md_readWord : y_Md_readWord.cls = "FrameUnwinderModel" ∧ y_Md_readWord.cls ≠ "java/lang/invoke/MethodHandle" ∧ y_Md_readWord.cls ≠ "java/lang/invoke/VarHandle" ∧ (parseMethodDescriptor y_Md_readWord.desc).map (fun d => d.parameters.length) = some 1 := by decide +kernel
abbrev b_Md_expressionOf : ByteArray := prog_13_method_47_code
def y_Md_expressionOf : MethodName := ⟨"FrameUnwinderModel", "expressionOf", "(IIII)I"⟩
theorem hd_Md_expressionOf : y_Md_expressionOf.cls = "FrameUnwinderModel" ∧ y_Md_expressionOf.cls ≠ "java/lang/invoke/MethodHandle" ∧ y_Md_expressionOf.cls ≠ "java/lang/invoke/VarHandle" ∧ (parseMethodDescriptor y_Md_expressionOf.desc).map (fun d => d.parameters.length) = some 4 := by decide +kernel
abbrev b_Md_callers : ByteArray := prog_13_method_48_code
def y_Md_callers : MethodName := ⟨"FrameUnwinderModel", "callers", "(III)I"⟩
theorem hd_Md_callers : y_Md_callers.cls = "FrameUnwinderModel" ∧ y_Md_callers.cls ≠ "java/lang/invoke/MethodHandle" ∧ y_Md_callers.cls ≠ "java/lang/invoke/VarHandle" ∧ (parseMethodDescriptor y_Md_callers.desc).map (fun d => d.parameters.length) = some 3 := by decide +kernel
abbrev b_Md_isKnownThen : ByteArray := prog_13_method_49_code
def y_Md_isKnownThen : MethodName := ⟨"FrameUnwinderModel", "isKnownThen", "(I)Z"⟩
theorem hd_Md_isKnownThen : y_Md_isKnownThen.cls = "FrameUnwinderModel" ∧ y_Md_isKnownThen.cls ≠ "java/lang/invoke/MethodHandle" ∧ y_Md_isKnownThen.cls ≠ "java/lang/invoke/VarHandle" ∧ (parseMethodDescriptor y_Md_isKnownThen.desc).map (fun d => d.parameters.length) = some 1 := by decide +kernel
abbrev b_Md_cfaNow : ByteArray := prog_13_method_50_code
def y_Md_cfaNow : MethodName := ⟨"FrameUnwinderModel", "cfaNow", "(I)I"⟩
theorem hd_Md_cfaNow : y_Md_cfaNow.cls = "FrameUnwinderModel" ∧ y_Md_cfaNow.cls ≠ "java/lang/invoke/MethodHandle" ∧ y_Md_cfaNow.cls ≠ "java/lang/invoke/VarHandle" ∧ (parseMethodDescriptor y_Md_cfaNow.desc).map (fun d => d.parameters.length) = some 1 := by decide +kernel
abbrev b_Md_unwind : ByteArray := prog_13_method_51_code
def y_Md_unwind : MethodName := ⟨"FrameUnwinderModel", "unwind", "(I)I"⟩
theorem hd_Md_unwind : y_Md_unwind.cls = "FrameUnwinderModel" ∧ y_Md_unwind.cls ≠ "java/lang/invoke/MethodHandle" ∧ y_Md_unwind.cls ≠ "java/lang/invoke/VarHandle" ∧ (parseMethodDescriptor y_Md_unwind.desc).map (fun d => d.parameters.length) = some 1 := by decide +kernel
abbrev b_Md_get : ByteArray := prog_13_method_52_code
def y_Md_get : MethodName := ⟨"FrameUnwinderModel", "get", "(I)I"⟩
theorem hd_Md_get : y_Md_get.cls = "FrameUnwinderModel" ∧ y_Md_get.cls ≠ "java/lang/invoke/MethodHandle" ∧ y_Md_get.cls ≠ "java/lang/invoke/VarHandle" ∧ (parseMethodDescriptor y_Md_get.desc).map (fun d => d.parameters.length) = some 1 := by decide +kernel
theorem sl_Fu_recoverReckoned : Cond.selects y_Fu_recoverReckoned.cls y_Fu_recoverReckoned y_Fu_recoverReckoned ∈ lw_tbl := List.mem_append_left _ (List.mem_map.mpr ⟨(y_Fu_recoverReckoned, 8), List.mem_of_getElem? (i := 26) (by decide +kernel), rfl⟩)
theorem sl_Fu_recoverRegister : Cond.selects y_Fu_recoverRegister.cls y_Fu_recoverRegister y_Fu_recoverRegister ∈ lw_tbl := List.mem_append_left _ (List.mem_map.mpr ⟨(y_Fu_recoverRegister, 8), List.mem_of_getElem? (i := 24) (by decide +kernel), rfl⟩)
theorem sl_Fu_recoverWord : Cond.selects y_Fu_recoverWord.cls y_Fu_recoverWord y_Fu_recoverWord ∈ lw_tbl := List.mem_append_left _ (List.mem_map.mpr ⟨(y_Fu_recoverWord, 8), List.mem_of_getElem? (i := 25) (by decide +kernel), rfl⟩)
theorem sl_In_readBlock : Cond.selects y_In_readBlock.cls y_In_readBlock y_In_readBlock ∈ lw_tbl := List.mem_append_left _ (List.mem_map.mpr ⟨(y_In_readBlock, 4), List.mem_of_getElem? (i := 6) (by decide +kernel), rfl⟩)
theorem sl_In_readOperands : Cond.selects y_In_readOperands.cls y_In_readOperands y_In_readOperands ∈ lw_tbl := List.mem_append_left _ (List.mem_map.mpr ⟨(y_In_readOperands, 4), List.mem_of_getElem? (i := 5) (by decide +kernel), rfl⟩)
theorem sl_La_commonAt : Cond.selects y_La_commonAt.cls y_La_commonAt y_La_commonAt ∈ lw_tbl := List.mem_append_left _ (List.mem_map.mpr ⟨(y_La_commonAt, 5), List.mem_of_getElem? (i := 2) (by decide +kernel), rfl⟩)
theorem sl_La_commonFault : Cond.selects y_La_commonFault.cls y_La_commonFault y_La_commonFault ∈ lw_tbl := List.mem_append_left _ (List.mem_map.mpr ⟨(y_La_commonFault, 5), List.mem_of_getElem? (i := 1) (by decide +kernel), rfl⟩)
theorem sl_La_frameFault : Cond.selects y_La_frameFault.cls y_La_frameFault y_La_frameFault ∈ lw_tbl := List.mem_append_left _ (List.mem_map.mpr ⟨(y_La_frameFault, 5), List.mem_of_getElem? (i := 3) (by decide +kernel), rfl⟩)
theorem sl_La_headFault : Cond.selects y_La_headFault.cls y_La_headFault y_La_headFault ∈ lw_tbl := List.mem_append_left _ (List.mem_map.mpr ⟨(y_La_headFault, 5), List.mem_of_getElem? (i := 0) (by decide +kernel), rfl⟩)
theorem sl_La_instructionsFault : Cond.selects y_La_instructionsFault.cls y_La_instructionsFault y_La_instructionsFault ∈ lw_tbl := List.mem_append_left _ (List.mem_map.mpr ⟨(y_La_instructionsFault, 5), List.mem_of_getElem? (i := 4) (by decide +kernel), rfl⟩)
theorem sl_Md_begin : Cond.selects y_Md_begin.cls y_Md_begin y_Md_begin ∈ lw_tbl := List.mem_append_left _ (List.mem_map.mpr ⟨(y_Md_begin, 32), List.mem_of_getElem? (i := 35) (by decide +kernel), rfl⟩)
theorem sl_Md_block : Cond.selects y_Md_block.cls y_Md_block y_Md_block ∈ lw_tbl := List.mem_append_left _ (List.mem_map.mpr ⟨(y_Md_block, 32), List.mem_of_getElem? (i := 43) (by decide +kernel), rfl⟩)
theorem sl_Md_bringBack : Cond.selects y_Md_bringBack.cls y_Md_bringBack y_Md_bringBack ∈ lw_tbl := List.mem_append_left _ (List.mem_map.mpr ⟨(y_Md_bringBack, 32), List.mem_of_getElem? (i := 40) (by decide +kernel), rfl⟩)
theorem sl_Md_callers : Cond.selects y_Md_callers.cls y_Md_callers y_Md_callers ∈ lw_tbl := List.mem_append_left _ (List.mem_map.mpr ⟨(y_Md_callers, 32), List.mem_of_getElem? (i := 56) (by decide +kernel), rfl⟩)
theorem sl_Md_cfa : Cond.selects y_Md_cfa.cls y_Md_cfa y_Md_cfa ∈ lw_tbl := List.mem_append_left _ (List.mem_map.mpr ⟨(y_Md_cfa, 32), List.mem_of_getElem? (i := 42) (by decide +kernel), rfl⟩)
theorem sl_Md_cfaInstruction : Cond.selects y_Md_cfaInstruction.cls y_Md_cfaInstruction y_Md_cfaInstruction ∈ lw_tbl := List.mem_append_left _ (List.mem_map.mpr ⟨(y_Md_cfaInstruction, 32), List.mem_of_getElem? (i := 41) (by decide +kernel), rfl⟩)
theorem sl_Md_cfaNow : Cond.selects y_Md_cfaNow.cls y_Md_cfaNow y_Md_cfaNow ∈ lw_tbl := List.mem_append_left _ (List.mem_map.mpr ⟨(y_Md_cfaNow, 32), List.mem_of_getElem? (i := 55) (by decide +kernel), rfl⟩)
theorem sl_Md_commonHead : Cond.selects y_Md_commonHead.cls y_Md_commonHead y_Md_commonHead ∈ lw_tbl := List.mem_append_left _ (List.mem_map.mpr ⟨(y_Md_commonHead, 32), List.mem_of_getElem? (i := 31) (by decide +kernel), rfl⟩)
theorem sl_Md_entry : Cond.selects y_Md_entry.cls y_Md_entry y_Md_entry ∈ lw_tbl := List.mem_append_left _ (List.mem_map.mpr ⟨(y_Md_entry, 32), List.mem_of_getElem? (i := 30) (by decide +kernel), rfl⟩)
theorem sl_Md_entryOf : Cond.selects y_Md_entryOf.cls y_Md_entryOf y_Md_entryOf ∈ lw_tbl := List.mem_append_left _ (List.mem_map.mpr ⟨(y_Md_entryOf, 32), List.mem_of_getElem? (i := 45) (by decide +kernel), rfl⟩)
theorem sl_Md_evaluate : Cond.selects y_Md_evaluate.cls y_Md_evaluate y_Md_evaluate ∈ lw_tbl := List.mem_append_left _ (List.mem_map.mpr ⟨(y_Md_evaluate, 32), List.mem_of_getElem? (i := 47) (by decide +kernel), rfl⟩)
theorem sl_Md_expressionOf : Cond.selects y_Md_expressionOf.cls y_Md_expressionOf y_Md_expressionOf ∈ lw_tbl := List.mem_append_left _ (List.mem_map.mpr ⟨(y_Md_expressionOf, 32), List.mem_of_getElem? (i := 58) (by decide +kernel), rfl⟩)
theorem sl_Md_frameHead : Cond.selects y_Md_frameHead.cls y_Md_frameHead y_Md_frameHead ∈ lw_tbl := List.mem_append_left _ (List.mem_map.mpr ⟨(y_Md_frameHead, 32), List.mem_of_getElem? (i := 34) (by decide +kernel), rfl⟩)
theorem sl_Md_instruction : Cond.selects y_Md_instruction.cls y_Md_instruction y_Md_instruction ∈ lw_tbl := List.mem_append_left _ (List.mem_map.mpr ⟨(y_Md_instruction, 32), List.mem_of_getElem? (i := 37) (by decide +kernel), rfl⟩)
theorem sl_Md_isKnownThen : Cond.selects y_Md_isKnownThen.cls y_Md_isKnownThen y_Md_isKnownThen ∈ lw_tbl := List.mem_append_left _ (List.mem_map.mpr ⟨(y_Md_isKnownThen, 32), List.mem_of_getElem? (i := 59) (by decide +kernel), rfl⟩)
theorem sl_Md_jump : Cond.selects y_Md_jump.cls y_Md_jump y_Md_jump ∈ lw_tbl := List.mem_append_left _ (List.mem_map.mpr ⟨(y_Md_jump, 32), List.mem_of_getElem? (i := 53) (by decide +kernel), rfl⟩)
theorem sl_Md_keepRow : Cond.selects y_Md_keepRow.cls y_Md_keepRow y_Md_keepRow ∈ lw_tbl := List.mem_append_left _ (List.mem_map.mpr ⟨(y_Md_keepRow, 32), List.mem_of_getElem? (i := 39) (by decide +kernel), rfl⟩)
theorem sl_Md_lacks : Cond.selects y_Md_lacks.cls y_Md_lacks y_Md_lacks ∈ lw_tbl := List.mem_append_left _ (List.mem_map.mpr ⟨(y_Md_lacks, 32), List.mem_of_getElem? (i := 49) (by decide +kernel), rfl⟩)
theorem sl_Md_leb : Cond.selects y_Md_leb.cls y_Md_leb y_Md_leb ∈ lw_tbl := List.mem_append_left _ (List.mem_map.mpr ⟨(y_Md_leb, 32), List.mem_of_getElem? (i := 32) (by decide +kernel), rfl⟩)
theorem sl_Md_look : Cond.selects y_Md_look.cls y_Md_look y_Md_look ∈ lw_tbl := List.mem_append_left _ (List.mem_map.mpr ⟨(y_Md_look, 32), List.mem_of_getElem? (i := 28) (by decide +kernel), rfl⟩)
theorem sl_Md_operation : Cond.selects y_Md_operation.cls y_Md_operation y_Md_operation ∈ lw_tbl := List.mem_append_left _ (List.mem_map.mpr ⟨(y_Md_operation, 32), List.mem_of_getElem? (i := 48) (by decide +kernel), rfl⟩)
theorem sl_Md_push : Cond.selects y_Md_push.cls y_Md_push y_Md_push ∈ lw_tbl := List.mem_append_left _ (List.mem_map.mpr ⟨(y_Md_push, 32), List.mem_of_getElem? (i := 51) (by decide +kernel), rfl⟩)
theorem sl_Md_pushed : Cond.selects y_Md_pushed.cls y_Md_pushed y_Md_pushed ∈ lw_tbl := List.mem_append_left _ (List.mem_map.mpr ⟨(y_Md_pushed, 32), List.mem_of_getElem? (i := 50) (by decide +kernel), rfl⟩)
theorem sl_Md_readWord : Cond.selects y_Md_readWord.cls y_Md_readWord y_Md_readWord ∈ lw_tbl := List.mem_append_left _ (List.mem_map.mpr ⟨(y_Md_readWord, 32), List.mem_of_getElem? (i := 57) (by decide +kernel), rfl⟩)
theorem sl_Md_rearrange : Cond.selects y_Md_rearrange.cls y_Md_rearrange y_Md_rearrange ∈ lw_tbl := List.mem_append_left _ (List.mem_map.mpr ⟨(y_Md_rearrange, 32), List.mem_of_getElem? (i := 54) (by decide +kernel), rfl⟩)
theorem sl_Md_registerInstruction : Cond.selects y_Md_registerInstruction.cls y_Md_registerInstruction y_Md_registerInstruction ∈ lw_tbl := List.mem_append_left _ (List.mem_map.mpr ⟨(y_Md_registerInstruction, 32), List.mem_of_getElem? (i := 44) (by decide +kernel), rfl⟩)
theorem sl_Md_register_ : Cond.selects y_Md_register_.cls y_Md_register_ y_Md_register_ ∈ lw_tbl := List.mem_append_left _ (List.mem_map.mpr ⟨(y_Md_register_, 32), List.mem_of_getElem? (i := 33) (by decide +kernel), rfl⟩)
theorem sl_Md_restore : Cond.selects y_Md_restore.cls y_Md_restore y_Md_restore ∈ lw_tbl := List.mem_append_left _ (List.mem_map.mpr ⟨(y_Md_restore, 32), List.mem_of_getElem? (i := 38) (by decide +kernel), rfl⟩)
theorem sl_Md_rowAt : Cond.selects y_Md_rowAt.cls y_Md_rowAt y_Md_rowAt ∈ lw_tbl := List.mem_append_left _ (List.mem_map.mpr ⟨(y_Md_rowAt, 32), List.mem_of_getElem? (i := 46) (by decide +kernel), rfl⟩)
theorem sl_Md_rule : Cond.selects y_Md_rule.cls y_Md_rule y_Md_rule ∈ lw_tbl := List.mem_append_left _ (List.mem_map.mpr ⟨(y_Md_rule, 32), List.mem_of_getElem? (i := 36) (by decide +kernel), rfl⟩)
theorem sl_Md_signed : Cond.selects y_Md_signed.cls y_Md_signed y_Md_signed ∈ lw_tbl := List.mem_append_left _ (List.mem_map.mpr ⟨(y_Md_signed, 32), List.mem_of_getElem? (i := 52) (by decide +kernel), rfl⟩)
theorem sl_Md_unsigned : Cond.selects y_Md_unsigned.cls y_Md_unsigned y_Md_unsigned ∈ lw_tbl := List.mem_append_left _ (List.mem_map.mpr ⟨(y_Md_unsigned, 32), List.mem_of_getElem? (i := 29) (by decide +kernel), rfl⟩)
theorem sl_Rk_changeTop : Cond.selects y_Rk_changeTop.cls y_Rk_changeTop y_Rk_changeTop ∈ lw_tbl := List.mem_append_left _ (List.mem_map.mpr ⟨(y_Rk_changeTop, 8), List.mem_of_getElem? (i := 18) (by decide +kernel), rfl⟩)
theorem sl_Rk_doOne : Cond.selects y_Rk_doOne.cls y_Rk_doOne y_Rk_doOne ∈ lw_tbl := List.mem_append_left _ (List.mem_map.mpr ⟨(y_Rk_doOne, 8), List.mem_of_getElem? (i := 14) (by decide +kernel), rfl⟩)
theorem sl_Rk_familyOf : Cond.selects y_Rk_familyOf.cls y_Rk_familyOf y_Rk_familyOf ∈ lw_tbl := List.mem_append_left _ (List.mem_map.mpr ⟨(y_Rk_familyOf, 8), List.mem_of_getElem? (i := 15) (by decide +kernel), rfl⟩)
theorem sl_Rk_joinTwo : Cond.selects y_Rk_joinTwo.cls y_Rk_joinTwo y_Rk_joinTwo ∈ lw_tbl := List.mem_append_left _ (List.mem_map.mpr ⟨(y_Rk_joinTwo, 8), List.mem_of_getElem? (i := 19) (by decide +kernel), rfl⟩)
theorem sl_Rk_jump : Cond.selects y_Rk_jump.cls y_Rk_jump y_Rk_jump ∈ lw_tbl := List.mem_append_left _ (List.mem_map.mpr ⟨(y_Rk_jump, 8), List.mem_of_getElem? (i := 21) (by decide +kernel), rfl⟩)
theorem sl_Rk_move : Cond.selects y_Rk_move.cls y_Rk_move y_Rk_move ∈ lw_tbl := List.mem_append_left _ (List.mem_map.mpr ⟨(y_Rk_move, 8), List.mem_of_getElem? (i := 20) (by decide +kernel), rfl⟩)
theorem sl_Rk_operandOf : Cond.selects y_Rk_operandOf.cls y_Rk_operandOf y_Rk_operandOf ∈ lw_tbl := List.mem_append_left _ (List.mem_map.mpr ⟨(y_Rk_operandOf, 8), List.mem_of_getElem? (i := 16) (by decide +kernel), rfl⟩)
theorem sl_Rk_pushFor : Cond.selects y_Rk_pushFor.cls y_Rk_pushFor y_Rk_pushFor ∈ lw_tbl := List.mem_append_left _ (List.mem_map.mpr ⟨(y_Rk_pushFor, 8), List.mem_of_getElem? (i := 17) (by decide +kernel), rfl⟩)
theorem sl_Tr_apply : Cond.selects y_Tr_apply.cls y_Tr_apply y_Tr_apply ∈ lw_tbl := List.mem_append_left _ (List.mem_map.mpr ⟨(y_Tr_apply, 7), List.mem_of_getElem? (i := 9) (by decide +kernel), rfl⟩)
theorem sl_Tr_applyToCfa : Cond.selects y_Tr_applyToCfa.cls y_Tr_applyToCfa y_Tr_applyToCfa ∈ lw_tbl := List.mem_append_left _ (List.mem_map.mpr ⟨(y_Tr_applyToCfa, 7), List.mem_of_getElem? (i := 12) (by decide +kernel), rfl⟩)
theorem sl_Tr_applyToRegister : Cond.selects y_Tr_applyToRegister.cls y_Tr_applyToRegister y_Tr_applyToRegister ∈ lw_tbl := List.mem_append_left _ (List.mem_map.mpr ⟨(y_Tr_applyToRegister, 7), List.mem_of_getElem? (i := 13) (by decide +kernel), rfl⟩)
theorem sl_Tr_follow : Cond.selects y_Tr_follow.cls y_Tr_follow y_Tr_follow ∈ lw_tbl := List.mem_append_left _ (List.mem_map.mpr ⟨(y_Tr_follow, 7), List.mem_of_getElem? (i := 8) (by decide +kernel), rfl⟩)
theorem sl_Tr_remember : Cond.selects y_Tr_remember.cls y_Tr_remember y_Tr_remember ∈ lw_tbl := List.mem_append_left _ (List.mem_map.mpr ⟨(y_Tr_remember, 7), List.mem_of_getElem? (i := 10) (by decide +kernel), rfl⟩)
theorem sl_Tr_takeBack : Cond.selects y_Tr_takeBack.cls y_Tr_takeBack y_Tr_takeBack ∈ lw_tbl := List.mem_append_left _ (List.mem_map.mpr ⟨(y_Tr_takeBack, 7), List.mem_of_getElem? (i := 11) (by decide +kernel), rfl⟩)
theorem cs_Fu_93 {R rm2 : Room} (h0 : rm2.cells = 0) (h1 : rm2.slots = 0) (hR : rm2.frames + 1 ≤ R.frames ∧ 8 + (5 + 11) + rm2.locals ≤ R.locals) (s : State) (args : Array Value) (ht : ∀ w ∈ gTs, w.before args s = true) : CallW R s args "FrameUnwinder" "FrameUnwinder$Layout" 93 y_La_firstFault b_La_firstFault 5 (some .int) (gW y_La_firstFault b_La_firstFault 5 (some .int)) rm2 0 0 0 :=
  cwV 0 ht (gGIV tb_319 tb_320 tb_321 tb_4 tb_322) rfl h0 h1 hd_La_firstFault hR
theorem cs_Fu_128 {R rm2 : Room} (h0 : rm2.cells = 0) (h1 : rm2.slots = 0) (hR : rm2.frames + 1 ≤ R.frames ∧ 8 + (2 + 11) + rm2.locals ≤ R.locals) (s : State) (args : Array Value) (ht : ∀ w ∈ gTs, w.before args s = true) : CallW R s args "FrameUnwinder" "FrameUnwinder$Memory" 128 y_Me_has b_Me_has 2 (some .boolean) (gW y_Me_has b_Me_has 2 (some .boolean)) rm2 0 0 1 :=
  cwV 1 ht (gGIV tb_657 tb_658 tb_659 tb_9 tb_660) rfl h0 h1 hd_Me_has hR
theorem cs_Fu_136 {R rm2 : Room} (h0 : rm2.cells = 0) (h1 : rm2.slots = 0) (hR : rm2.frames + 1 ≤ R.frames ∧ 8 + (3 + 11) + rm2.locals ≤ R.locals) (s : State) (args : Array Value) (ht : ∀ w ∈ gTs, w.before args s = true) : CallW R s args "FrameUnwinder" "FrameUnwinder$Frame" 136 y_Fr_learn b_Fr_learn 3 none (gW y_Fr_learn b_Fr_learn 3 none) rm2 0 0 2 :=
  cwV 2 ht (gGIV tb_672 tb_673 tb_674 tb_10 tb_675) rfl h0 h1 hd_Fr_learn hR
theorem cs_Fu_148 {R rm2 : Room} (h0 : rm2.cells = 0) (h1 : rm2.slots = 0) (hR : rm2.frames + 1 ≤ R.frames ∧ 8 + (1 + 11) + rm2.locals ≤ R.locals) (s : State) (args : Array Value) (ht : ∀ w ∈ gTs, w.before args s = true) : CallW R s args "FrameUnwinder" "FrameUnwinder$Reckoner" 148 y_Rk_clear b_Rk_clear 1 none (gW y_Rk_clear b_Rk_clear 1 none) rm2 0 0 0 :=
  cwV 0 ht (gGIV tb_686 tb_687 tb_688 tb_11 tb_689) rfl h0 h1 hd_Rk_clear hR
theorem cs_Fu_151 {R rm2 : Room} (h0 : rm2.cells = 0) (h1 : rm2.slots = 0) (hR : rm2.frames + 1 ≤ R.frames ∧ 8 + (6 + 11) + rm2.locals ≤ R.locals) (s : State) (args : Array Value) (ht : ∀ w ∈ gTs, w.before args s = true) : CallW R s args "FrameUnwinder" "FrameUnwinder$Reckoner" 151 y_Rk_run b_Rk_run 6 (some .int) (gW y_Rk_run b_Rk_run 6 (some .int)) rm2 0 0 3 :=
  cwV 3 ht (gGIV tb_690 tb_691 tb_692 tb_11 tb_693) rfl h0 h1 hd_Rk_run hR
theorem cs_Fu_155 {R rm2 : Room} (h0 : rm2.cells = 0) (h1 : rm2.slots = 0) (hR : rm2.frames + 1 ≤ R.frames ∧ 8 + (1 + 11) + rm2.locals ≤ R.locals) (s : State) (args : Array Value) (ht : ∀ w ∈ gTs, w.before args s = true) : CallW R s args "FrameUnwinder" "FrameUnwinder$Reckoner" 155 y_Rk_top b_Rk_top 1 (some .int) (gW y_Rk_top b_Rk_top 1 (some .int)) rm2 0 0 0 :=
  cwV 0 ht (gGIV tb_769 tb_770 tb_771 tb_11 tb_772) rfl h0 h1 hd_Rk_top hR
theorem cs_Fu_191 {R rm2 : Room} (h0 : rm2.cells = 0) (h1 : rm2.slots = 0) (hR : rm2.frames + 1 ≤ R.frames ∧ 8 + (2 + 11) + rm2.locals ≤ R.locals) (s : State) (args : Array Value) (ht : ∀ w ∈ gTs, w.before args s = true) : CallW R s args "FrameUnwinder" "FrameUnwinder$Frame" 191 y_Fr_knows b_Fr_knows 2 (some .boolean) (gW y_Fr_knows b_Fr_knows 2 (some .boolean)) rm2 0 0 1 :=
  cwV 1 ht (gGIV tb_788 tb_736 tb_737 tb_10 tb_738) rfl h0 h1 hd_Fr_knows hR
theorem cs_Fu_194 {R rm2 : Room} (h0 : rm2.cells = 0) (h1 : rm2.slots = 0) (hR : rm2.frames + 1 ≤ R.frames ∧ 8 + (2 + 11) + rm2.locals ≤ R.locals) (s : State) (args : Array Value) (ht : ∀ w ∈ gTs, w.before args s = true) : CallW R s args "FrameUnwinder" "FrameUnwinder$Reckoner" 194 y_Rk_push b_Rk_push 2 none (gW y_Rk_push b_Rk_push 2 none) rm2 0 0 1 :=
  cwV 1 ht (gGIV tb_789 tb_732 tb_733 tb_11 tb_734) rfl h0 h1 hd_Rk_push hR
theorem cs_Fu_197 {R rm2 : Room} (h0 : rm2.cells = 0) (h1 : rm2.slots = 0) (hR : rm2.frames + 1 ≤ R.frames ∧ 8 + (3 + 11) + rm2.locals ≤ R.locals) (s : State) (args : Array Value) (ht : ∀ w ∈ gTs, w.before args s = true) : CallW R s args "FrameUnwinder" "FrameUnwinder" 197 y_Fu_recoverRegister b_Fu_recoverRegister 3 (some .int) (gW y_Fu_recoverRegister b_Fu_recoverRegister 3 (some .int)) rm2 0 0 2 :=
  cwV 2 ht (gGIV tb_794 tb_796 sl_Fu_recoverRegister tb_1 tb_797) rfl h0 h1 hd_Fu_recoverRegister hR
theorem cs_Fu_200 {R rm2 : Room} (h0 : rm2.cells = 0) (h1 : rm2.slots = 0) (hR : rm2.frames + 1 ≤ R.frames ∧ 8 + (3 + 11) + rm2.locals ≤ R.locals) (s : State) (args : Array Value) (ht : ∀ w ∈ gTs, w.before args s = true) : CallW R s args "FrameUnwinder" "FrameUnwinder" 200 y_Fu_recoverWord b_Fu_recoverWord 3 (some .int) (gW y_Fu_recoverWord b_Fu_recoverWord 3 (some .int)) rm2 0 0 2 :=
  cwV 2 ht (gGIV tb_802 tb_804 sl_Fu_recoverWord tb_1 tb_805) rfl h0 h1 hd_Fu_recoverWord hR
theorem cs_Fu_203 {R rm2 : Room} (h0 : rm2.cells = 0) (h1 : rm2.slots = 0) (hR : rm2.frames + 1 ≤ R.frames ∧ 8 + (2 + 11) + rm2.locals ≤ R.locals) (s : State) (args : Array Value) (ht : ∀ w ∈ gTs, w.before args s = true) : CallW R s args "FrameUnwinder" "FrameUnwinder$Reckoner" 203 y_Rk_giveCfa b_Rk_giveCfa 2 none (gW y_Rk_giveCfa b_Rk_giveCfa 2 none) rm2 0 0 1 :=
  cwV 1 ht (gGIV tb_807 tb_808 tb_809 tb_11 tb_810) rfl h0 h1 hd_Rk_giveCfa hR
theorem cs_Fu_206 {R rm2 : Room} (h0 : rm2.cells = 0) (h1 : rm2.slots = 0) (hR : rm2.frames + 1 ≤ R.frames ∧ 8 + (3 + 11) + rm2.locals ≤ R.locals) (s : State) (args : Array Value) (ht : ∀ w ∈ gTs, w.before args s = true) : CallW R s args "FrameUnwinder" "FrameUnwinder" 206 y_Fu_recoverReckoned b_Fu_recoverReckoned 3 (some .int) (gW y_Fu_recoverReckoned b_Fu_recoverReckoned 3 (some .int)) rm2 0 0 2 :=
  cwV 2 ht (gGIV tb_811 tb_813 sl_Fu_recoverReckoned tb_1 tb_814) rfl h0 h1 hd_Fu_recoverReckoned hR
theorem cs_Fu_209 {R rm2 : Room} (h0 : rm2.cells = 0) (h1 : rm2.slots = 0) (hR : rm2.frames + 1 ≤ R.frames ∧ 8 + (2 + 11) + rm2.locals ≤ R.locals) (s : State) (args : Array Value) (ht : ∀ w ∈ gTs, w.before args s = true) : CallW R s args "FrameUnwinder" "FrameUnwinder$Frame" 209 y_Fr_forget b_Fr_forget 2 none (gW y_Fr_forget b_Fr_forget 2 none) rm2 0 0 1 :=
  cwV 1 ht (gGIV tb_798 tb_799 tb_800 tb_10 tb_801) rfl h0 h1 hd_Fr_forget hR
theorem cs_Fu_212 {R rm2 : Room} (h0 : rm2.cells = 0) (h1 : rm2.slots = 0) (hR : rm2.frames + 1 ≤ R.frames ∧ 8 + (2 + 11) + rm2.locals ≤ R.locals) (s : State) (args : Array Value) (ht : ∀ w ∈ gTs, w.before args s = true) : CallW R s args "FrameUnwinder" "FrameUnwinder$Memory" 212 y_Me_load b_Me_load 2 (some .int) (gW y_Me_load b_Me_load 2 (some .int)) rm2 0 0 1 :=
  cwV 1 ht (gGIV tb_806 tb_745 tb_746 tb_9 tb_747) rfl h0 h1 hd_Me_load hR
theorem cs_Fu_215 {R rm2 : Room} (h0 : rm2.cells = 0) (h1 : rm2.slots = 0) (hR : rm2.frames + 1 ≤ R.frames ∧ 8 + (2 + 11) + rm2.locals ≤ R.locals) (s : State) (args : Array Value) (ht : ∀ w ∈ gTs, w.before args s = true) : CallW R s args "FrameUnwinder" "FrameUnwinder$Frame" 215 y_Fr_takeRegisters b_Fr_takeRegisters 2 none (gW y_Fr_takeRegisters b_Fr_takeRegisters 2 none) rm2 0 0 1 :=
  cwV 1 ht (gGIV tb_819 tb_820 tb_821 tb_10 tb_822) rfl h0 h1 hd_Fr_takeRegisters hR
theorem cs_In_9 {R rm2 : Room} (h0 : rm2.cells = 0) (h1 : rm2.slots = 0) (hR : rm2.frames + 1 ≤ R.frames ∧ 8 + (4 + 11) + rm2.locals ≤ R.locals) (s : State) (args : Array Value) (ht : ∀ w ∈ gTs, w.before args s = true) : CallW R s args "FrameUnwinder$Instruction" "FrameUnwinder$Reader" 9 y_Rd_unsigned b_Rd_unsigned 4 (some .int) (gW y_Rd_unsigned b_Rd_unsigned 4 (some .int)) rm2 0 0 1 :=
  cwV 1 ht (gGIV tb_364 tb_332 tb_333 tb_3 tb_334) rfl h0 h1 hd_Rd_unsigned hR
theorem cs_In_30 {R rm2 : Room} (h0 : rm2.cells = 0) (h1 : rm2.slots = 0) (hR : rm2.frames + 1 ≤ R.frames ∧ 8 + (4 + 11) + rm2.locals ≤ R.locals) (s : State) (args : Array Value) (ht : ∀ w ∈ gTs, w.before args s = true) : CallW R s args "FrameUnwinder$Instruction" "FrameUnwinder$Reader" 30 y_Rd_uleb b_Rd_uleb 4 (some .int) (gW y_Rd_uleb b_Rd_uleb 4 (some .int)) rm2 0 0 0 :=
  cwV 0 ht (gGIV tb_365 tb_340 tb_341 tb_3 tb_342) rfl h0 h1 hd_Rd_uleb hR
theorem cs_In_34 {R rm2 : Room} (h0 : rm2.cells = 0) (h1 : rm2.slots = 0) (hR : rm2.frames + 1 ≤ R.frames ∧ 8 + (2 + 11) + rm2.locals ≤ R.locals) (s : State) (args : Array Value) (ht : ∀ w ∈ gTs, w.before args s = true) : CallW R s args "FrameUnwinder$Instruction" "FrameUnwinder$Instruction" 34 y_In_readOperands b_In_readOperands 2 (some .boolean) (gW y_In_readOperands b_In_readOperands 2 (some .boolean)) rm2 0 0 1 :=
  cwV 1 ht (gGIV tb_366 tb_368 sl_In_readOperands tb_5 tb_369) rfl h0 h1 hd_In_readOperands hR
theorem cs_In_42 {R rm2 : Room} (h0 : rm2.cells = 0) (h1 : rm2.slots = 0) (hR : rm2.frames + 1 ≤ R.frames ∧ 8 + (4 + 11) + rm2.locals ≤ R.locals) (s : State) (args : Array Value) (ht : ∀ w ∈ gTs, w.before args s = true) : CallW R s args "FrameUnwinder$Instruction" "FrameUnwinder$Reader" 42 y_Rd_sleb b_Rd_sleb 4 (some .int) (gW y_Rd_sleb b_Rd_sleb 4 (some .int)) rm2 0 0 0 :=
  cwV 0 ht (gGIV tb_370 tb_344 tb_345 tb_3 tb_346) rfl h0 h1 hd_Rd_sleb hR
theorem cs_In_45 {R rm2 : Room} (h0 : rm2.cells = 0) (h1 : rm2.slots = 0) (hR : rm2.frames + 1 ≤ R.frames ∧ 8 + (2 + 11) + rm2.locals ≤ R.locals) (s : State) (args : Array Value) (ht : ∀ w ∈ gTs, w.before args s = true) : CallW R s args "FrameUnwinder$Instruction" "FrameUnwinder$Instruction" 45 y_In_readBlock b_In_readBlock 2 none (gW y_In_readBlock b_In_readBlock 2 none) rm2 0 0 1 :=
  cwV 1 ht (gGIV tb_371 tb_373 sl_In_readBlock tb_5 tb_374) rfl h0 h1 hd_In_readBlock hR
theorem cs_In_52 {R rm2 : Room} (h0 : rm2.cells = 0) (h1 : rm2.slots = 0) (hR : rm2.frames + 1 ≤ R.frames ∧ 8 + (2 + 11) + rm2.locals ≤ R.locals) (s : State) (args : Array Value) (ht : ∀ w ∈ gTs, w.before args s = true) : CallW R s args "FrameUnwinder$Instruction" "FrameUnwinder$Reader" 52 y_Rd_skip b_Rd_skip 2 none (gW y_Rd_skip b_Rd_skip 2 none) rm2 0 0 1 :=
  cwV 1 ht (gGIV tb_375 tb_376 tb_377 tb_3 tb_378) rfl h0 h1 hd_Rd_skip hR
theorem cs_La_42 {R rm2 : Room} (h0 : rm2.cells = 0) (h1 : rm2.slots = 0) (hR : rm2.frames + 1 ≤ R.frames ∧ 8 + (7 + 11) + rm2.locals ≤ R.locals) (s : State) (args : Array Value) (ht : ∀ w ∈ gTs, w.before args s = true) : CallW R s args "FrameUnwinder$Layout" "FrameUnwinder$Layout" 42 y_La_headFault b_La_headFault 7 (some .int) (gW y_La_headFault b_La_headFault 7 (some .int)) rm2 0 0 2 :=
  cwV 2 ht (gGIV tb_323 tb_325 sl_La_headFault tb_4 tb_326) rfl h0 h1 hd_La_headFault hR
theorem cs_La_46 {R rm2 : Room} (h0 : rm2.cells = 0) (h1 : rm2.slots = 0) (hR : rm2.frames + 1 ≤ R.frames ∧ 8 + (5 + 11) + rm2.locals ≤ R.locals) (s : State) (args : Array Value) (ht : ∀ w ∈ gTs, w.before args s = true) : CallW R s args "FrameUnwinder$Layout" "FrameUnwinder$Layout" 46 y_La_instructionsFault b_La_instructionsFault 5 (some .int) (gW y_La_instructionsFault b_La_instructionsFault 5 (some .int)) rm2 0 0 1 :=
  cwV 1 ht (gGIV tb_356 tb_358 sl_La_instructionsFault tb_4 tb_359) rfl h0 h1 hd_La_instructionsFault hR
theorem cs_La_53 {R rm2 : Room} (h0 : rm2.cells = 0) (h1 : rm2.slots = 0) (hR : rm2.frames + 1 ≤ R.frames ∧ 8 + (4 + 11) + rm2.locals ≤ R.locals) (s : State) (args : Array Value) (ht : ∀ w ∈ gTs, w.before args s = true) : CallW R s args "FrameUnwinder$Layout" "FrameUnwinder$Entry" 53 y_En_covers b_En_covers 4 (some .boolean) (gW y_En_covers b_En_covers 4 (some .boolean)) rm2 0 0 1 :=
  cwV 1 ht (gGIV tb_549 tb_550 tb_551 tb_6 tb_552) rfl h0 h1 hd_En_covers hR
theorem cs_La_57 {R rm2 : Room} (h0 : rm2.cells = 0) (h1 : rm2.slots = 0) (hR : rm2.frames + 1 ≤ R.frames ∧ 8 + (3 + 11) + rm2.locals ≤ R.locals) (s : State) (args : Array Value) (ht : ∀ w ∈ gTs, w.before args s = true) : CallW R s args "FrameUnwinder$Layout" "FrameUnwinder$Reader" 57 y_Rd_open b_Rd_open 3 none (gW y_Rd_open b_Rd_open 3 none) rm2 0 0 2 :=
  cwV 2 ht (gGIV tb_327 tb_328 tb_329 tb_3 tb_330) rfl h0 h1 hd_Rd_open hR
theorem cs_La_63 {R rm2 : Room} (h0 : rm2.cells = 0) (h1 : rm2.slots = 0) (hR : rm2.frames + 1 ≤ R.frames ∧ 8 + (4 + 11) + rm2.locals ≤ R.locals) (s : State) (args : Array Value) (ht : ∀ w ∈ gTs, w.before args s = true) : CallW R s args "FrameUnwinder$Layout" "FrameUnwinder$Reader" 63 y_Rd_unsigned b_Rd_unsigned 4 (some .int) (gW y_Rd_unsigned b_Rd_unsigned 4 (some .int)) rm2 0 0 1 :=
  cwV 1 ht (gGIV tb_331 tb_332 tb_333 tb_3 tb_334) rfl h0 h1 hd_Rd_unsigned hR
theorem cs_La_80 {R rm2 : Room} (h0 : rm2.cells = 0) (h1 : rm2.slots = 0) (hR : rm2.frames + 1 ≤ R.frames ∧ 8 + (3 + 11) + rm2.locals ≤ R.locals) (s : State) (args : Array Value) (ht : ∀ w ∈ gTs, w.before args s = true) : CallW R s args "FrameUnwinder$Layout" "FrameUnwinder$Layout" 80 y_La_commonFault b_La_commonFault 3 (some .int) (gW y_La_commonFault b_La_commonFault 3 (some .int)) rm2 0 0 1 :=
  cwV 1 ht (gGIV tb_335 tb_337 sl_La_commonFault tb_4 tb_338) rfl h0 h1 hd_La_commonFault hR
theorem cs_La_83 {R rm2 : Room} (h0 : rm2.cells = 0) (h1 : rm2.slots = 0) (hR : rm2.frames + 1 ≤ R.frames ∧ 8 + (3 + 11) + rm2.locals ≤ R.locals) (s : State) (args : Array Value) (ht : ∀ w ∈ gTs, w.before args s = true) : CallW R s args "FrameUnwinder$Layout" "FrameUnwinder$Layout" 83 y_La_commonAt b_La_commonAt 3 (some .int) (gW y_La_commonAt b_La_commonAt 3 (some .int)) rm2 0 0 1 :=
  cwV 1 ht (gGIV tb_348 tb_350 sl_La_commonAt tb_4 tb_351) rfl h0 h1 hd_La_commonAt hR
theorem cs_La_89 {R rm2 : Room} (h0 : rm2.cells = 0) (h1 : rm2.slots = 0) (hR : rm2.frames + 1 ≤ R.frames ∧ 8 + (3 + 11) + rm2.locals ≤ R.locals) (s : State) (args : Array Value) (ht : ∀ w ∈ gTs, w.before args s = true) : CallW R s args "FrameUnwinder$Layout" "FrameUnwinder$Layout" 89 y_La_frameFault b_La_frameFault 3 (some .int) (gW y_La_frameFault b_La_frameFault 3 (some .int)) rm2 0 0 1 :=
  cwV 1 ht (gGIV tb_352 tb_354 sl_La_frameFault tb_4 tb_355) rfl h0 h1 hd_La_frameFault hR
theorem cs_La_92 {R rm2 : Room} (h0 : rm2.cells = 0) (h1 : rm2.slots = 0) (hR : rm2.frames + 1 ≤ R.frames ∧ 8 + (4 + 11) + rm2.locals ≤ R.locals) (s : State) (args : Array Value) (ht : ∀ w ∈ gTs, w.before args s = true) : CallW R s args "FrameUnwinder$Layout" "FrameUnwinder$Reader" 92 y_Rd_uleb b_Rd_uleb 4 (some .int) (gW y_Rd_uleb b_Rd_uleb 4 (some .int)) rm2 0 0 0 :=
  cwV 0 ht (gGIV tb_339 tb_340 tb_341 tb_3 tb_342) rfl h0 h1 hd_Rd_uleb hR
theorem cs_La_99 {R rm2 : Room} (h0 : rm2.cells = 0) (h1 : rm2.slots = 0) (hR : rm2.frames + 1 ≤ R.frames ∧ 8 + (4 + 11) + rm2.locals ≤ R.locals) (s : State) (args : Array Value) (ht : ∀ w ∈ gTs, w.before args s = true) : CallW R s args "FrameUnwinder$Layout" "FrameUnwinder$Reader" 99 y_Rd_sleb b_Rd_sleb 4 (some .int) (gW y_Rd_sleb b_Rd_sleb 4 (some .int)) rm2 0 0 0 :=
  cwV 0 ht (gGIV tb_343 tb_344 tb_345 tb_3 tb_346) rfl h0 h1 hd_Rd_sleb hR
theorem cs_La_120 {R rm2 : Room} (h0 : rm2.cells = 0) (h1 : rm2.slots = 0) (hR : rm2.frames + 1 ≤ R.frames ∧ 8 + (4 + 11) + rm2.locals ≤ R.locals) (s : State) (args : Array Value) (ht : ∀ w ∈ gTs, w.before args s = true) : CallW R s args "FrameUnwinder$Layout" "FrameUnwinder$Instruction" 120 y_In_readFrom b_In_readFrom 4 (some .boolean) (gW y_In_readFrom b_In_readFrom 4 (some .boolean)) rm2 0 0 1 :=
  cwV 1 ht (gGIV tb_360 tb_361 tb_362 tb_5 tb_363) rfl h0 h1 hd_In_readFrom hR
theorem cs_La_124 {R rm2 : Room} (h0 : rm2.cells = 0) (h1 : rm2.slots = 0) (hR : rm2.frames + 1 ≤ R.frames ∧ 8 + (1 + 11) + rm2.locals ≤ R.locals) (s : State) (args : Array Value) (ht : ∀ w ∈ gTs, w.before args s = true) : CallW R s args "FrameUnwinder$Layout" "FrameUnwinder$Instruction" 124 y_In_mayStandInCommon b_In_mayStandInCommon 1 (some .boolean) (gW y_In_mayStandInCommon b_In_mayStandInCommon 1 (some .boolean)) rm2 0 0 0 :=
  cwV 0 ht (gGIV tb_379 tb_380 tb_381 tb_5 tb_382) rfl h0 h1 hd_In_mayStandInCommon hR
theorem cs_Rd_24 {R rm2 : Room} (h0 : rm2.cells = 0) (h1 : rm2.slots = 0) (hR : rm2.frames + 1 ≤ R.frames ∧ 8 + (4 + 11) + rm2.locals ≤ R.locals) (s : State) (args : Array Value) (ht : ∀ w ∈ gTs, w.before args s = true) : CallW R s args "FrameUnwinder$Reader" "FrameUnwinder$Reader" 24 y_Rd_unsigned b_Rd_unsigned 4 (some .int) (gW y_Rd_unsigned b_Rd_unsigned 4 (some .int)) rm2 0 0 1 :=
  cwV 1 ht (gGIV tb_719 tb_332 tb_333 tb_3 tb_334) rfl h0 h1 hd_Rd_unsigned hR
theorem cs_Rd_28 {R rm2 : Room} (h0 : rm2.cells = 0) (h1 : rm2.slots = 0) (hR : rm2.frames + 1 ≤ R.frames ∧ 8 + (4 + 11) + rm2.locals ≤ R.locals) (s : State) (args : Array Value) (ht : ∀ w ∈ gTs, w.before args s = true) : CallW R s args "FrameUnwinder$Reader" "FrameUnwinder$Reader" 28 y_Rd_uleb b_Rd_uleb 4 (some .int) (gW y_Rd_uleb b_Rd_uleb 4 (some .int)) rm2 0 0 0 :=
  cwV 0 ht (gGIV tb_347 tb_340 tb_341 tb_3 tb_342) rfl h0 h1 hd_Rd_uleb hR
theorem cs_Rk_38 {R rm2 : Room} (h0 : rm2.cells = 0) (h1 : rm2.slots = 0) (hR : rm2.frames + 1 ≤ R.frames ∧ 8 + (2 + 11) + rm2.locals ≤ R.locals) (s : State) (args : Array Value) (ht : ∀ w ∈ gTs, w.before args s = true) : CallW R s args "FrameUnwinder$Reckoner" "FrameUnwinder$Reckoner" 38 y_Rk_push b_Rk_push 2 none (gW y_Rk_push b_Rk_push 2 none) rm2 0 0 1 :=
  cwV 1 ht (gGIV tb_731 tb_732 tb_733 tb_11 tb_734) rfl h0 h1 hd_Rk_push hR
theorem cs_Rk_45 {R rm2 : Room} (h0 : rm2.cells = 0) (h1 : rm2.slots = 0) (hR : rm2.frames + 1 ≤ R.frames ∧ 8 + (3 + 11) + rm2.locals ≤ R.locals) (s : State) (args : Array Value) (ht : ∀ w ∈ gTs, w.before args s = true) : CallW R s args "FrameUnwinder$Reckoner" "FrameUnwinder$Reader" 45 y_Rd_open b_Rd_open 3 none (gW y_Rd_open b_Rd_open 3 none) rm2 0 0 2 :=
  cwV 2 ht (gGIV tb_694 tb_328 tb_329 tb_3 tb_330) rfl h0 h1 hd_Rd_open hR
theorem cs_Rk_57 {R rm2 : Room} (h0 : rm2.cells = 0) (h1 : rm2.slots = 0) (hR : rm2.frames + 1 ≤ R.frames ∧ 8 + (5 + 11) + rm2.locals ≤ R.locals) (s : State) (args : Array Value) (ht : ∀ w ∈ gTs, w.before args s = true) : CallW R s args "FrameUnwinder$Reckoner" "FrameUnwinder$Reckoner" 57 y_Rk_doOne b_Rk_doOne 5 (some .int) (gW y_Rk_doOne b_Rk_doOne 5 (some .int)) rm2 0 0 0 :=
  cwV 0 ht (gGIV tb_695 tb_697 sl_Rk_doOne tb_11 tb_698) rfl h0 h1 hd_Rk_doOne hR
theorem cs_Rk_61 {R rm2 : Room} (h0 : rm2.cells = 0) (h1 : rm2.slots = 0) (hR : rm2.frames + 1 ≤ R.frames ∧ 8 + (4 + 11) + rm2.locals ≤ R.locals) (s : State) (args : Array Value) (ht : ∀ w ∈ gTs, w.before args s = true) : CallW R s args "FrameUnwinder$Reckoner" "FrameUnwinder$Reader" 61 y_Rd_unsigned b_Rd_unsigned 4 (some .int) (gW y_Rd_unsigned b_Rd_unsigned 4 (some .int)) rm2 0 0 1 :=
  cwV 1 ht (gGIV tb_699 tb_332 tb_333 tb_3 tb_334) rfl h0 h1 hd_Rd_unsigned hR
theorem cs_Rk_65 {R rm2 : Room} (h0 : rm2.cells = 0) (h1 : rm2.slots = 0) (hR : rm2.frames + 1 ≤ R.frames ∧ 8 + (2 + 11) + rm2.locals ≤ R.locals) (s : State) (args : Array Value) (ht : ∀ w ∈ gTs, w.before args s = true) : CallW R s args "FrameUnwinder$Reckoner" "FrameUnwinder$Reckoner" 65 y_Rk_familyOf b_Rk_familyOf 2 (some .int) (gW y_Rk_familyOf b_Rk_familyOf 2 (some .int)) rm2 0 0 1 :=
  cwV 1 ht (gGIV tb_700 tb_702 sl_Rk_familyOf tb_11 tb_703) rfl h0 h1 hd_Rk_familyOf hR
theorem cs_Rk_68 {R rm2 : Room} (h0 : rm2.cells = 0) (h1 : rm2.slots = 0) (hR : rm2.frames + 1 ≤ R.frames ∧ 8 + (2 + 11) + rm2.locals ≤ R.locals) (s : State) (args : Array Value) (ht : ∀ w ∈ gTs, w.before args s = true) : CallW R s args "FrameUnwinder$Reckoner" "FrameUnwinder$Reckoner" 68 y_Rk_operandOf b_Rk_operandOf 2 (some .int) (gW y_Rk_operandOf b_Rk_operandOf 2 (some .int)) rm2 0 0 1 :=
  cwV 1 ht (gGIV tb_710 tb_712 sl_Rk_operandOf tb_11 tb_713) rfl h0 h1 hd_Rk_operandOf hR
theorem cs_Rk_74 {R rm2 : Room} (h0 : rm2.cells = 0) (h1 : rm2.slots = 0) (hR : rm2.frames + 1 ≤ R.frames ∧ 8 + (3 + 11) + rm2.locals ≤ R.locals) (s : State) (args : Array Value) (ht : ∀ w ∈ gTs, w.before args s = true) : CallB R s args "FrameUnwinder$Reckoner" 74 y_Rk_neededBy b_Rk_neededBy 3 (some .int) (gW y_Rk_neededBy b_Rk_neededBy 3 (some .int)) rm2 0 0 3 ∧ (Cond.static y_Rk_neededBy).before args s = true :=
  cwS 3 ht (gGIS tb_721 tb_722 tb_11 tb_723) rfl h0 h1 hd_Rk_neededBy hR
theorem cs_Rk_78 {R rm2 : Room} (h0 : rm2.cells = 0) (h1 : rm2.slots = 0) (hR : rm2.frames + 1 ≤ R.frames ∧ 8 + (5 + 11) + rm2.locals ≤ R.locals) (s : State) (args : Array Value) (ht : ∀ w ∈ gTs, w.before args s = true) : CallW R s args "FrameUnwinder$Reckoner" "FrameUnwinder$Reckoner" 78 y_Rk_pushFor b_Rk_pushFor 5 (some .int) (gW y_Rk_pushFor b_Rk_pushFor 5 (some .int)) rm2 0 0 2 :=
  cwV 2 ht (gGIV tb_727 tb_729 sl_Rk_pushFor tb_11 tb_730) rfl h0 h1 hd_Rk_pushFor hR
theorem cs_Rk_82 {R rm2 : Room} (h0 : rm2.cells = 0) (h1 : rm2.slots = 0) (hR : rm2.frames + 1 ≤ R.frames ∧ 8 + (4 + 11) + rm2.locals ≤ R.locals) (s : State) (args : Array Value) (ht : ∀ w ∈ gTs, w.before args s = true) : CallW R s args "FrameUnwinder$Reckoner" "FrameUnwinder$Reckoner" 82 y_Rk_changeTop b_Rk_changeTop 4 (some .int) (gW y_Rk_changeTop b_Rk_changeTop 4 (some .int)) rm2 0 0 2 :=
  cwV 2 ht (gGIV tb_739 tb_741 sl_Rk_changeTop tb_11 tb_742) rfl h0 h1 hd_Rk_changeTop hR
theorem cs_Rk_85 {R rm2 : Room} (h0 : rm2.cells = 0) (h1 : rm2.slots = 0) (hR : rm2.frames + 1 ≤ R.frames ∧ 8 + (4 + 11) + rm2.locals ≤ R.locals) (s : State) (args : Array Value) (ht : ∀ w ∈ gTs, w.before args s = true) : CallW R s args "FrameUnwinder$Reckoner" "FrameUnwinder$Reckoner" 85 y_Rk_joinTwo b_Rk_joinTwo 4 (some .int) (gW y_Rk_joinTwo b_Rk_joinTwo 4 (some .int)) rm2 0 0 1 :=
  cwV 1 ht (gGIV tb_748 tb_750 sl_Rk_joinTwo tb_11 tb_751) rfl h0 h1 hd_Rk_joinTwo hR
theorem cs_Rk_88 {R rm2 : Room} (h0 : rm2.cells = 0) (h1 : rm2.slots = 0) (hR : rm2.frames + 1 ≤ R.frames ∧ 8 + (3 + 11) + rm2.locals ≤ R.locals) (s : State) (args : Array Value) (ht : ∀ w ∈ gTs, w.before args s = true) : CallW R s args "FrameUnwinder$Reckoner" "FrameUnwinder$Reckoner" 88 y_Rk_move b_Rk_move 3 (some .int) (gW y_Rk_move b_Rk_move 3 (some .int)) rm2 0 0 1 :=
  cwV 1 ht (gGIV tb_761 tb_763 sl_Rk_move tb_11 tb_764) rfl h0 h1 hd_Rk_move hR
theorem cs_Rk_91 {R rm2 : Room} (h0 : rm2.cells = 0) (h1 : rm2.slots = 0) (hR : rm2.frames + 1 ≤ R.frames ∧ 8 + (4 + 11) + rm2.locals ≤ R.locals) (s : State) (args : Array Value) (ht : ∀ w ∈ gTs, w.before args s = true) : CallW R s args "FrameUnwinder$Reckoner" "FrameUnwinder$Reckoner" 91 y_Rk_jump b_Rk_jump 4 (some .int) (gW y_Rk_jump b_Rk_jump 4 (some .int)) rm2 0 0 2 :=
  cwV 2 ht (gGIV tb_765 tb_767 sl_Rk_jump tb_11 tb_768) rfl h0 h1 hd_Rk_jump hR
theorem cs_Rk_94 {R rm2 : Room} (h0 : rm2.cells = 0) (h1 : rm2.slots = 0) (hR : rm2.frames + 1 ≤ R.frames ∧ 8 + (1 + 11) + rm2.locals ≤ R.locals) (s : State) (args : Array Value) (ht : ∀ w ∈ gTs, w.before args s = true) : CallB R s args "FrameUnwinder$Reckoner" 94 y_Rk_isSmall b_Rk_isSmall 1 (some .boolean) (gW y_Rk_isSmall b_Rk_isSmall 1 (some .boolean)) rm2 0 0 1 ∧ (Cond.static y_Rk_isSmall).before args s = true :=
  cwS 1 ht (gGIS tb_704 tb_705 tb_11 tb_706) rfl h0 h1 hd_Rk_isSmall hR
theorem cs_Rk_98 {R rm2 : Room} (h0 : rm2.cells = 0) (h1 : rm2.slots = 0) (hR : rm2.frames + 1 ≤ R.frames ∧ 8 + (1 + 11) + rm2.locals ≤ R.locals) (s : State) (args : Array Value) (ht : ∀ w ∈ gTs, w.before args s = true) : CallB R s args "FrameUnwinder$Reckoner" 98 y_Rk_isRegister b_Rk_isRegister 1 (some .boolean) (gW y_Rk_isRegister b_Rk_isRegister 1 (some .boolean)) rm2 0 0 1 ∧ (Cond.static y_Rk_isRegister).before args s = true :=
  cwS 1 ht (gGIS tb_707 tb_708 tb_11 tb_709) rfl h0 h1 hd_Rk_isRegister hR
theorem cs_Rk_101 {R rm2 : Room} (h0 : rm2.cells = 0) (h1 : rm2.slots = 0) (hR : rm2.frames + 1 ≤ R.frames ∧ 8 + (4 + 11) + rm2.locals ≤ R.locals) (s : State) (args : Array Value) (ht : ∀ w ∈ gTs, w.before args s = true) : CallW R s args "FrameUnwinder$Reckoner" "FrameUnwinder$Reader" 101 y_Rd_sleb b_Rd_sleb 4 (some .int) (gW y_Rd_sleb b_Rd_sleb 4 (some .int)) rm2 0 0 0 :=
  cwV 0 ht (gGIV tb_714 tb_344 tb_345 tb_3 tb_346) rfl h0 h1 hd_Rd_sleb hR
theorem cs_Rk_104 {R rm2 : Room} (h0 : rm2.cells = 0) (h1 : rm2.slots = 0) (hR : rm2.frames + 1 ≤ R.frames ∧ 8 + (3 + 11) + rm2.locals ≤ R.locals) (s : State) (args : Array Value) (ht : ∀ w ∈ gTs, w.before args s = true) : CallW R s args "FrameUnwinder$Reckoner" "FrameUnwinder$Reader" 104 y_Rd_signed b_Rd_signed 3 (some .int) (gW y_Rd_signed b_Rd_signed 3 (some .int)) rm2 0 0 1 :=
  cwV 1 ht (gGIV tb_715 tb_716 tb_717 tb_3 tb_718) rfl h0 h1 hd_Rd_signed hR
theorem cs_Rk_107 {R rm2 : Room} (h0 : rm2.cells = 0) (h1 : rm2.slots = 0) (hR : rm2.frames + 1 ≤ R.frames ∧ 8 + (4 + 11) + rm2.locals ≤ R.locals) (s : State) (args : Array Value) (ht : ∀ w ∈ gTs, w.before args s = true) : CallW R s args "FrameUnwinder$Reckoner" "FrameUnwinder$Reader" 107 y_Rd_uleb b_Rd_uleb 4 (some .int) (gW y_Rd_uleb b_Rd_uleb 4 (some .int)) rm2 0 0 0 :=
  cwV 0 ht (gGIV tb_720 tb_340 tb_341 tb_3 tb_342) rfl h0 h1 hd_Rd_uleb hR
theorem cs_Rk_110 {R rm2 : Room} (h0 : rm2.cells = 0) (h1 : rm2.slots = 0) (hR : rm2.frames + 1 ≤ R.frames ∧ 8 + (2 + 11) + rm2.locals ≤ R.locals) (s : State) (args : Array Value) (ht : ∀ w ∈ gTs, w.before args s = true) : CallB R s args "FrameUnwinder$Reckoner" 110 y_Rk_depthOfCopy b_Rk_depthOfCopy 2 (some .int) (gW y_Rk_depthOfCopy b_Rk_depthOfCopy 2 (some .int)) rm2 0 0 2 ∧ (Cond.static y_Rk_depthOfCopy).before args s = true :=
  cwS 2 ht (gGIS tb_724 tb_725 tb_11 tb_726) rfl h0 h1 hd_Rk_depthOfCopy hR
theorem cs_Rk_113 {R rm2 : Room} (h0 : rm2.cells = 0) (h1 : rm2.slots = 0) (hR : rm2.frames + 1 ≤ R.frames ∧ 8 + (2 + 11) + rm2.locals ≤ R.locals) (s : State) (args : Array Value) (ht : ∀ w ∈ gTs, w.before args s = true) : CallW R s args "FrameUnwinder$Reckoner" "FrameUnwinder$Frame" 113 y_Fr_knows b_Fr_knows 2 (some .boolean) (gW y_Fr_knows b_Fr_knows 2 (some .boolean)) rm2 0 0 1 :=
  cwV 1 ht (gGIV tb_735 tb_736 tb_737 tb_10 tb_738) rfl h0 h1 hd_Fr_knows hR
theorem cs_Rk_121 {R rm2 : Room} (h0 : rm2.cells = 0) (h1 : rm2.slots = 0) (hR : rm2.frames + 1 ≤ R.frames ∧ 8 + (2 + 11) + rm2.locals ≤ R.locals) (s : State) (args : Array Value) (ht : ∀ w ∈ gTs, w.before args s = true) : CallW R s args "FrameUnwinder$Reckoner" "FrameUnwinder$Memory" 121 y_Me_has b_Me_has 2 (some .boolean) (gW y_Me_has b_Me_has 2 (some .boolean)) rm2 0 0 1 :=
  cwV 1 ht (gGIV tb_743 tb_658 tb_659 tb_9 tb_660) rfl h0 h1 hd_Me_has hR
theorem cs_Rk_126 {R rm2 : Room} (h0 : rm2.cells = 0) (h1 : rm2.slots = 0) (hR : rm2.frames + 1 ≤ R.frames ∧ 8 + (2 + 11) + rm2.locals ≤ R.locals) (s : State) (args : Array Value) (ht : ∀ w ∈ gTs, w.before args s = true) : CallW R s args "FrameUnwinder$Reckoner" "FrameUnwinder$Memory" 126 y_Me_load b_Me_load 2 (some .int) (gW y_Me_load b_Me_load 2 (some .int)) rm2 0 0 1 :=
  cwV 1 ht (gGIV tb_744 tb_745 tb_746 tb_9 tb_747) rfl h0 h1 hd_Me_load hR
theorem cs_Rk_129 {R rm2 : Room} (h0 : rm2.cells = 0) (h1 : rm2.slots = 0) (hR : rm2.frames + 1 ≤ R.frames ∧ 8 + (3 + 11) + rm2.locals ≤ R.locals) (s : State) (args : Array Value) (ht : ∀ w ∈ gTs, w.before args s = true) : CallB R s args "FrameUnwinder$Reckoner" 129 y_Rk_compared b_Rk_compared 3 (some .int) (gW y_Rk_compared b_Rk_compared 3 (some .int)) rm2 0 0 3 ∧ (Cond.static y_Rk_compared).before args s = true :=
  cwS 3 ht (gGIS tb_752 tb_753 tb_11 tb_754) rfl h0 h1 hd_Rk_compared hR
theorem cs_Rk_132 {R rm2 : Room} (h0 : rm2.cells = 0) (h1 : rm2.slots = 0) (hR : rm2.frames + 1 ≤ R.frames ∧ 8 + (3 + 11) + rm2.locals ≤ R.locals) (s : State) (args : Array Value) (ht : ∀ w ∈ gTs, w.before args s = true) : CallB R s args "FrameUnwinder$Reckoner" 132 y_Rk_joined b_Rk_joined 3 (some .int) (gW y_Rk_joined b_Rk_joined 3 (some .int)) rm2 0 0 3 ∧ (Cond.static y_Rk_joined).before args s = true :=
  cwS 3 ht (gGIS tb_755 tb_756 tb_11 tb_757) rfl h0 h1 hd_Rk_joined hR
theorem cs_Rk_135 {R rm2 : Room} (h0 : rm2.cells = 0) (h1 : rm2.slots = 0) (hR : rm2.frames + 1 ≤ R.frames ∧ 8 + (3 + 11) + rm2.locals ≤ R.locals) (s : State) (args : Array Value) (ht : ∀ w ∈ gTs, w.before args s = true) : CallB R s args "FrameUnwinder$Reckoner" 135 y_Rk_shifted b_Rk_shifted 3 (some .int) (gW y_Rk_shifted b_Rk_shifted 3 (some .int)) rm2 0 0 3 ∧ (Cond.static y_Rk_shifted).before args s = true :=
  cwS 3 ht (gGIS tb_758 tb_759 tb_11 tb_760) rfl h0 h1 hd_Rk_shifted hR
theorem cs_Ro_21 {R rm2 : Room} (h0 : rm2.cells = 0) (h1 : rm2.slots = 0) (hR : rm2.frames + 1 ≤ R.frames ∧ 8 + (5 + 11) + rm2.locals ≤ R.locals) (s : State) (args : Array Value) (ht : ∀ w ∈ gTs, w.before args s = true) : CallW R s args "FrameUnwinder$Row" "FrameUnwinder$Row" 21 y_Ro_put b_Ro_put 5 none (gW y_Ro_put b_Ro_put 5 none) rm2 0 0 4 :=
  cwV 4 ht (gGIV tb_585 tb_586 tb_587 tb_8 tb_588) rfl h0 h1 hd_Ro_put hR
theorem cs_Tr_48 {R rm2 : Room} (h0 : rm2.cells = 0) (h1 : rm2.slots = 0) (hR : rm2.frames + 1 ≤ R.frames ∧ 8 + (3 + 11) + rm2.locals ≤ R.locals) (s : State) (args : Array Value) (ht : ∀ w ∈ gTs, w.before args s = true) : CallW R s args "FrameUnwinder$Tracer" "FrameUnwinder$Row" 48 y_Ro_reset b_Ro_reset 3 none (gW y_Ro_reset b_Ro_reset 3 none) rm2 0 0 1 :=
  cwV 1 ht (gGIV tb_581 tb_582 tb_583 tb_8 tb_584) rfl h0 h1 hd_Ro_reset hR
theorem cs_Tr_52 {R rm2 : Room} (h0 : rm2.cells = 0) (h1 : rm2.slots = 0) (hR : rm2.frames + 1 ≤ R.frames ∧ 8 + (5 + 11) + rm2.locals ≤ R.locals) (s : State) (args : Array Value) (ht : ∀ w ∈ gTs, w.before args s = true) : CallW R s args "FrameUnwinder$Tracer" "FrameUnwinder$Tracer" 52 y_Tr_follow b_Tr_follow 5 none (gW y_Tr_follow b_Tr_follow 5 none) rm2 0 0 3 :=
  cwV 3 ht (gGIV tb_589 tb_591 sl_Tr_follow tb_7 tb_592) rfl h0 h1 hd_Tr_follow hR
theorem cs_Tr_56 {R rm2 : Room} (h0 : rm2.cells = 0) (h1 : rm2.slots = 0) (hR : rm2.frames + 1 ≤ R.frames ∧ 8 + (2 + 11) + rm2.locals ≤ R.locals) (s : State) (args : Array Value) (ht : ∀ w ∈ gTs, w.before args s = true) : CallW R s args "FrameUnwinder$Tracer" "FrameUnwinder$Row" 56 y_Ro_copyFrom b_Ro_copyFrom 2 none (gW y_Ro_copyFrom b_Ro_copyFrom 2 none) rm2 0 0 1 :=
  cwV 1 ht (gGIV tb_610 tb_611 tb_612 tb_8 tb_613) rfl h0 h1 hd_Ro_copyFrom hR
theorem cs_Tr_69 {R rm2 : Room} (h0 : rm2.cells = 0) (h1 : rm2.slots = 0) (hR : rm2.frames + 1 ≤ R.frames ∧ 8 + (3 + 11) + rm2.locals ≤ R.locals) (s : State) (args : Array Value) (ht : ∀ w ∈ gTs, w.before args s = true) : CallW R s args "FrameUnwinder$Tracer" "FrameUnwinder$Reader" 69 y_Rd_open b_Rd_open 3 none (gW y_Rd_open b_Rd_open 3 none) rm2 0 0 2 :=
  cwV 2 ht (gGIV tb_593 tb_328 tb_329 tb_3 tb_330) rfl h0 h1 hd_Rd_open hR
theorem cs_Tr_81 {R rm2 : Room} (h0 : rm2.cells = 0) (h1 : rm2.slots = 0) (hR : rm2.frames + 1 ≤ R.frames ∧ 8 + (2 + 11) + rm2.locals ≤ R.locals) (s : State) (args : Array Value) (ht : ∀ w ∈ gTs, w.before args s = true) : CallB R s args "FrameUnwinder$Tracer" 81 y_Ij_compareUnsigned b_Ij_compareUnsigned 2 (some .int) (gW y_Ij_compareUnsigned b_Ij_compareUnsigned 2 (some .int)) rm2 0 0 2 ∧ (Cond.static y_Ij_compareUnsigned).before args s = true :=
  va_cwS 2 ht (gGIW tb_594 tb_595 tb_21 tb_596) rfl h0 h1 hd_Ij_compareUnsigned.2 hR
theorem cs_Tr_87 {R rm2 : Room} (h0 : rm2.cells = 0) (h1 : rm2.slots = 0) (hR : rm2.frames + 1 ≤ R.frames ∧ 8 + (4 + 11) + rm2.locals ≤ R.locals) (s : State) (args : Array Value) (ht : ∀ w ∈ gTs, w.before args s = true) : CallW R s args "FrameUnwinder$Tracer" "FrameUnwinder$Instruction" 87 y_In_readFrom b_In_readFrom 4 (some .boolean) (gW y_In_readFrom b_In_readFrom 4 (some .boolean)) rm2 0 0 1 :=
  cwV 1 ht (gGIV tb_601 tb_361 tb_362 tb_5 tb_363) rfl h0 h1 hd_In_readFrom hR
theorem cs_Tr_97 {R rm2 : Room} (h0 : rm2.cells = 0) (h1 : rm2.slots = 0) (hR : rm2.frames + 1 ≤ R.frames ∧ 8 + (4 + 11) + rm2.locals ≤ R.locals) (s : State) (args : Array Value) (ht : ∀ w ∈ gTs, w.before args s = true) : CallW R s args "FrameUnwinder$Tracer" "FrameUnwinder$Tracer" 97 y_Tr_apply b_Tr_apply 4 none (gW y_Tr_apply b_Tr_apply 4 none) rm2 0 0 2 :=
  cwV 2 ht (gGIV tb_602 tb_604 sl_Tr_apply tb_7 tb_605) rfl h0 h1 hd_Tr_apply hR
theorem cs_Tr_106 {R rm2 : Room} (h0 : rm2.cells = 0) (h1 : rm2.slots = 0) (hR : rm2.frames + 1 ≤ R.frames ∧ 8 + (1 + 11) + rm2.locals ≤ R.locals) (s : State) (args : Array Value) (ht : ∀ w ∈ gTs, w.before args s = true) : CallW R s args "FrameUnwinder$Tracer" "FrameUnwinder$Tracer" 106 y_Tr_remember b_Tr_remember 1 none (gW y_Tr_remember b_Tr_remember 1 none) rm2 0 0 0 :=
  cwV 0 ht (gGIV tb_606 tb_608 sl_Tr_remember tb_7 tb_609) rfl h0 h1 hd_Tr_remember hR
theorem cs_Tr_109 {R rm2 : Room} (h0 : rm2.cells = 0) (h1 : rm2.slots = 0) (hR : rm2.frames + 1 ≤ R.frames ∧ 8 + (1 + 11) + rm2.locals ≤ R.locals) (s : State) (args : Array Value) (ht : ∀ w ∈ gTs, w.before args s = true) : CallW R s args "FrameUnwinder$Tracer" "FrameUnwinder$Tracer" 109 y_Tr_takeBack b_Tr_takeBack 1 none (gW y_Tr_takeBack b_Tr_takeBack 1 none) rm2 0 0 0 :=
  cwV 0 ht (gGIV tb_617 tb_619 sl_Tr_takeBack tb_7 tb_620) rfl h0 h1 hd_Tr_takeBack hR
theorem cs_Tr_112 {R rm2 : Room} (h0 : rm2.cells = 0) (h1 : rm2.slots = 0) (hR : rm2.frames + 1 ≤ R.frames ∧ 8 + (4 + 11) + rm2.locals ≤ R.locals) (s : State) (args : Array Value) (ht : ∀ w ∈ gTs, w.before args s = true) : CallW R s args "FrameUnwinder$Tracer" "FrameUnwinder$Tracer" 112 y_Tr_applyToCfa b_Tr_applyToCfa 4 none (gW y_Tr_applyToCfa b_Tr_applyToCfa 4 none) rm2 0 0 1 :=
  cwV 1 ht (gGIV tb_621 tb_623 sl_Tr_applyToCfa tb_7 tb_624) rfl h0 h1 hd_Tr_applyToCfa hR
theorem cs_Tr_115 {R rm2 : Room} (h0 : rm2.cells = 0) (h1 : rm2.slots = 0) (hR : rm2.frames + 1 ≤ R.frames ∧ 8 + (4 + 11) + rm2.locals ≤ R.locals) (s : State) (args : Array Value) (ht : ∀ w ∈ gTs, w.before args s = true) : CallW R s args "FrameUnwinder$Tracer" "FrameUnwinder$Tracer" 115 y_Tr_applyToRegister b_Tr_applyToRegister 4 none (gW y_Tr_applyToRegister b_Tr_applyToRegister 4 none) rm2 0 0 1 :=
  cwV 1 ht (gGIV tb_638 tb_640 sl_Tr_applyToRegister tb_7 tb_641) rfl h0 h1 hd_Tr_applyToRegister hR
theorem cs_Tr_121 {R rm2 : Room} (h0 : rm2.cells = 0) (h1 : rm2.slots = 0) (hR : rm2.frames + 1 ≤ R.frames ∧ 8 + (3 + 11) + rm2.locals ≤ R.locals) (s : State) (args : Array Value) (ht : ∀ w ∈ gTs, w.before args s = true) : CallW R s args "FrameUnwinder$Tracer" "FrameUnwinder$Row" 121 y_Ro_putCfa b_Ro_putCfa 3 none (gW y_Ro_putCfa b_Ro_putCfa 3 none) rm2 0 0 2 :=
  cwV 2 ht (gGIV tb_625 tb_626 tb_627 tb_8 tb_628) rfl h0 h1 hd_Ro_putCfa hR
theorem cs_Tr_124 {R rm2 : Room} (h0 : rm2.cells = 0) (h1 : rm2.slots = 0) (hR : rm2.frames + 1 ≤ R.frames ∧ 8 + (1 + 11) + rm2.locals ≤ R.locals) (s : State) (args : Array Value) (ht : ∀ w ∈ gTs, w.before args s = true) : CallW R s args "FrameUnwinder$Tracer" "FrameUnwinder$Row" 124 y_Ro_cfaNumber b_Ro_cfaNumber 1 (some .int) (gW y_Ro_cfaNumber b_Ro_cfaNumber 1 (some .int)) rm2 0 0 0 :=
  cwV 0 ht (gGIV tb_629 tb_630 tb_631 tb_8 tb_632) rfl h0 h1 hd_Ro_cfaNumber hR
theorem cs_Tr_128 {R rm2 : Room} (h0 : rm2.cells = 0) (h1 : rm2.slots = 0) (hR : rm2.frames + 1 ≤ R.frames ∧ 8 + (1 + 11) + rm2.locals ≤ R.locals) (s : State) (args : Array Value) (ht : ∀ w ∈ gTs, w.before args s = true) : CallW R s args "FrameUnwinder$Tracer" "FrameUnwinder$Row" 128 y_Ro_cfaRegister b_Ro_cfaRegister 1 (some .int) (gW y_Ro_cfaRegister b_Ro_cfaRegister 1 (some .int)) rm2 0 0 0 :=
  cwV 0 ht (gGIV tb_633 tb_634 tb_635 tb_8 tb_636) rfl h0 h1 hd_Ro_cfaRegister hR
theorem cs_Tr_134 {R rm2 : Room} (h0 : rm2.cells = 0) (h1 : rm2.slots = 0) (hR : rm2.frames + 1 ≤ R.frames ∧ 8 + (5 + 11) + rm2.locals ≤ R.locals) (s : State) (args : Array Value) (ht : ∀ w ∈ gTs, w.before args s = true) : CallW R s args "FrameUnwinder$Tracer" "FrameUnwinder$Row" 134 y_Ro_put b_Ro_put 5 none (gW y_Ro_put b_Ro_put 5 none) rm2 0 0 4 :=
  cwV 4 ht (gGIV tb_637 tb_586 tb_587 tb_8 tb_588) rfl h0 h1 hd_Ro_put hR
theorem cs_Tr_138 {R rm2 : Room} (h0 : rm2.cells = 0) (h1 : rm2.slots = 0) (hR : rm2.frames + 1 ≤ R.frames ∧ 8 + (3 + 11) + rm2.locals ≤ R.locals) (s : State) (args : Array Value) (ht : ∀ w ∈ gTs, w.before args s = true) : CallW R s args "FrameUnwinder$Tracer" "FrameUnwinder$Row" 138 y_Ro_copyRule b_Ro_copyRule 3 none (gW y_Ro_copyRule b_Ro_copyRule 3 none) rm2 0 0 2 :=
  cwV 2 ht (gGIV tb_642 tb_643 tb_644 tb_8 tb_645) rfl h0 h1 hd_Ro_copyRule hR
theorem cs_Md_75 {R rm2 : Room} (h0 : rm2.cells = 0) (h1 : rm2.slots = 0) (hR : rm2.frames + 1 ≤ R.frames ∧ 8 + (3 + 11) + rm2.locals ≤ R.locals) (s : State) (args : Array Value) (ht : ∀ w ∈ gTs, w.before args s = true) : CallB R s args "FrameUnwinderModel" 75 y_Md_within b_Md_within 3 (some .boolean) (gW y_Md_within b_Md_within 3 (some .boolean)) rm2 0 0 3 ∧ (Cond.static y_Md_within).before args s = true :=
  cwS 3 ht (gGIS tb_947 tb_948 tb_12 tb_949) rfl h0 h1 hd_Md_within hR
theorem cs_Md_89 {R rm2 : Room} (h0 : rm2.cells = 0) (h1 : rm2.slots = 0) (hR : rm2.frames + 1 ≤ R.frames ∧ 8 + (4 + 11) + rm2.locals ≤ R.locals) (s : State) (args : Array Value) (ht : ∀ w ∈ gTs, w.before args s = true) : CallW R s args "FrameUnwinderModel" "FrameUnwinderModel" 89 y_Md_unsigned b_Md_unsigned 4 (some .int) (gW y_Md_unsigned b_Md_unsigned 4 (some .int)) rm2 0 0 1 :=
  cwV 1 ht (gGIV tb_962 tb_964 sl_Md_unsigned tb_12 tb_965) rfl h0 h1 hd_Md_unsigned hR
theorem cs_Md_93 {R rm2 : Room} (h0 : rm2.cells = 0) (h1 : rm2.slots = 0) (hR : rm2.frames + 1 ≤ R.frames ∧ 8 + (5 + 11) + rm2.locals ≤ R.locals) (s : State) (args : Array Value) (ht : ∀ w ∈ gTs, w.before args s = true) : CallW R s args "FrameUnwinderModel" "FrameUnwinderModel" 93 y_Md_rule b_Md_rule 5 none (gW y_Md_rule b_Md_rule 5 none) rm2 0 0 4 :=
  cwV 4 ht (gGIV tb_990 tb_992 sl_Md_rule tb_12 tb_993) rfl h0 h1 hd_Md_rule hR
theorem cs_Md_97 {R rm2 : Room} (h0 : rm2.cells = 0) (h1 : rm2.slots = 0) (hR : rm2.frames + 1 ≤ R.frames ∧ 8 + (6 + 11) + rm2.locals ≤ R.locals) (s : State) (args : Array Value) (ht : ∀ w ∈ gTs, w.before args s = true) : CallW R s args "FrameUnwinderModel" "FrameUnwinderModel" 97 y_Md_leb b_Md_leb 6 (some .int) (gW y_Md_leb b_Md_leb 6 (some .int)) rm2 0 0 1 :=
  cwV 1 ht (gGIV tb_974 tb_976 sl_Md_leb tb_12 tb_977) rfl h0 h1 hd_Md_leb hR
theorem cs_Md_104 {R rm2 : Room} (h0 : rm2.cells = 0) (h1 : rm2.slots = 0) (hR : rm2.frames + 1 ≤ R.frames ∧ 8 + (2 + 11) + rm2.locals ≤ R.locals) (s : State) (args : Array Value) (ht : ∀ w ∈ gTs, w.before args s = true) : CallW R s args "FrameUnwinderModel" "FrameUnwinderModel" 104 y_Md_restore b_Md_restore 2 none (gW y_Md_restore b_Md_restore 2 none) rm2 0 0 1 :=
  cwV 1 ht (gGIV tb_998 tb_1000 sl_Md_restore tb_12 tb_1001) rfl h0 h1 hd_Md_restore hR
theorem cs_Md_111 {R rm2 : Room} (h0 : rm2.cells = 0) (h1 : rm2.slots = 0) (hR : rm2.frames + 1 ≤ R.frames ∧ 8 + (2 + 11) + rm2.locals ≤ R.locals) (s : State) (args : Array Value) (ht : ∀ w ∈ gTs, w.before args s = true) : CallW R s args "FrameUnwinderModel" "FrameUnwinderModel" 111 y_Md_keepRow b_Md_keepRow 2 none (gW y_Md_keepRow b_Md_keepRow 2 none) rm2 0 0 0 :=
  cwV 0 ht (gGIV tb_1002 tb_1004 sl_Md_keepRow tb_12 tb_1005) rfl h0 h1 hd_Md_keepRow hR
theorem cs_Md_114 {R rm2 : Room} (h0 : rm2.cells = 0) (h1 : rm2.slots = 0) (hR : rm2.frames + 1 ≤ R.frames ∧ 8 + (2 + 11) + rm2.locals ≤ R.locals) (s : State) (args : Array Value) (ht : ∀ w ∈ gTs, w.before args s = true) : CallW R s args "FrameUnwinderModel" "FrameUnwinderModel" 114 y_Md_bringBack b_Md_bringBack 2 none (gW y_Md_bringBack b_Md_bringBack 2 none) rm2 0 0 0 :=
  cwV 0 ht (gGIV tb_1006 tb_1008 sl_Md_bringBack tb_12 tb_1009) rfl h0 h1 hd_Md_bringBack hR
theorem cs_Md_117 {R rm2 : Room} (h0 : rm2.cells = 0) (h1 : rm2.slots = 0) (hR : rm2.frames + 1 ≤ R.frames ∧ 8 + (2 + 11) + rm2.locals ≤ R.locals) (s : State) (args : Array Value) (ht : ∀ w ∈ gTs, w.before args s = true) : CallW R s args "FrameUnwinderModel" "FrameUnwinderModel" 117 y_Md_register_ b_Md_register_ 2 (some .int) (gW y_Md_register_ b_Md_register_ 2 (some .int)) rm2 0 0 0 :=
  cwV 0 ht (gGIV tb_978 tb_980 sl_Md_register_ tb_12 tb_981) rfl h0 h1 hd_Md_register_ hR
theorem cs_Md_121 {R rm2 : Room} (h0 : rm2.cells = 0) (h1 : rm2.slots = 0) (hR : rm2.frames + 1 ≤ R.frames ∧ 8 + (6 + 11) + rm2.locals ≤ R.locals) (s : State) (args : Array Value) (ht : ∀ w ∈ gTs, w.before args s = true) : CallW R s args "FrameUnwinderModel" "FrameUnwinderModel" 121 y_Md_cfaInstruction b_Md_cfaInstruction 6 none (gW y_Md_cfaInstruction b_Md_cfaInstruction 6 none) rm2 0 0 2 :=
  cwV 2 ht (gGIV tb_1010 tb_1012 sl_Md_cfaInstruction tb_12 tb_1013) rfl h0 h1 hd_Md_cfaInstruction hR
theorem cs_Md_125 {R rm2 : Room} (h0 : rm2.cells = 0) (h1 : rm2.slots = 0) (hR : rm2.frames + 1 ≤ R.frames ∧ 8 + (6 + 11) + rm2.locals ≤ R.locals) (s : State) (args : Array Value) (ht : ∀ w ∈ gTs, w.before args s = true) : CallW R s args "FrameUnwinderModel" "FrameUnwinderModel" 125 y_Md_registerInstruction b_Md_registerInstruction 6 none (gW y_Md_registerInstruction b_Md_registerInstruction 6 none) rm2 0 0 2 :=
  cwV 2 ht (gGIV tb_1022 tb_1024 sl_Md_registerInstruction tb_12 tb_1025) rfl h0 h1 hd_Md_registerInstruction hR
theorem cs_Md_128 {R rm2 : Room} (h0 : rm2.cells = 0) (h1 : rm2.slots = 0) (hR : rm2.frames + 1 ≤ R.frames ∧ 8 + (4 + 11) + rm2.locals ≤ R.locals) (s : State) (args : Array Value) (ht : ∀ w ∈ gTs, w.before args s = true) : CallW R s args "FrameUnwinderModel" "FrameUnwinderModel" 128 y_Md_cfa b_Md_cfa 4 none (gW y_Md_cfa b_Md_cfa 4 none) rm2 0 0 3 :=
  cwV 3 ht (gGIV tb_1014 tb_1016 sl_Md_cfa tb_12 tb_1017) rfl h0 h1 hd_Md_cfa hR
theorem cs_Md_132 {R rm2 : Room} (h0 : rm2.cells = 0) (h1 : rm2.slots = 0) (hR : rm2.frames + 1 ≤ R.frames ∧ 8 + (3 + 11) + rm2.locals ≤ R.locals) (s : State) (args : Array Value) (ht : ∀ w ∈ gTs, w.before args s = true) : CallW R s args "FrameUnwinderModel" "FrameUnwinderModel" 132 y_Md_block b_Md_block 3 (some .int) (gW y_Md_block b_Md_block 3 (some .int)) rm2 0 0 1 :=
  cwV 1 ht (gGIV tb_1018 tb_1020 sl_Md_block tb_12 tb_1021) rfl h0 h1 hd_Md_block hR
theorem cs_Md_138 {R rm2 : Room} (h0 : rm2.cells = 0) (h1 : rm2.slots = 0) (hR : rm2.frames + 1 ≤ R.frames ∧ 8 + (6 + 11) + rm2.locals ≤ R.locals) (s : State) (args : Array Value) (ht : ∀ w ∈ gTs, w.before args s = true) : CallW R s args "FrameUnwinderModel" "FrameUnwinderModel" 138 y_Md_entry b_Md_entry 6 (some .int) (gW y_Md_entry b_Md_entry 6 (some .int)) rm2 0 0 1 :=
  cwV 1 ht (gGIV tb_966 tb_968 sl_Md_entry tb_12 tb_969) rfl h0 h1 hd_Md_entry hR
theorem cs_Md_141 {R rm2 : Room} (h0 : rm2.cells = 0) (h1 : rm2.slots = 0) (hR : rm2.frames + 1 ≤ R.frames ∧ 8 + (4 + 11) + rm2.locals ≤ R.locals) (s : State) (args : Array Value) (ht : ∀ w ∈ gTs, w.before args s = true) : CallW R s args "FrameUnwinderModel" "FrameUnwinderModel" 141 y_Md_commonHead b_Md_commonHead 4 (some .int) (gW y_Md_commonHead b_Md_commonHead 4 (some .int)) rm2 0 0 1 :=
  cwV 1 ht (gGIV tb_970 tb_972 sl_Md_commonHead tb_12 tb_973) rfl h0 h1 hd_Md_commonHead hR
theorem cs_Md_144 {R rm2 : Room} (h0 : rm2.cells = 0) (h1 : rm2.slots = 0) (hR : rm2.frames + 1 ≤ R.frames ∧ 8 + (3 + 11) + rm2.locals ≤ R.locals) (s : State) (args : Array Value) (ht : ∀ w ∈ gTs, w.before args s = true) : CallW R s args "FrameUnwinderModel" "FrameUnwinderModel" 144 y_Md_frameHead b_Md_frameHead 3 (some .int) (gW y_Md_frameHead b_Md_frameHead 3 (some .int)) rm2 0 0 1 :=
  cwV 1 ht (gGIV tb_982 tb_984 sl_Md_frameHead tb_12 tb_985) rfl h0 h1 hd_Md_frameHead hR
theorem cs_Md_147 {R rm2 : Room} (h0 : rm2.cells = 0) (h1 : rm2.slots = 0) (hR : rm2.frames + 1 ≤ R.frames ∧ 8 + (3 + 11) + rm2.locals ≤ R.locals) (s : State) (args : Array Value) (ht : ∀ w ∈ gTs, w.before args s = true) : CallW R s args "FrameUnwinderModel" "FrameUnwinderModel" 147 y_Md_begin b_Md_begin 3 none (gW y_Md_begin b_Md_begin 3 none) rm2 0 0 1 :=
  cwV 1 ht (gGIV tb_986 tb_988 sl_Md_begin tb_12 tb_989) rfl h0 h1 hd_Md_begin hR
theorem cs_Md_150 {R rm2 : Room} (h0 : rm2.cells = 0) (h1 : rm2.slots = 0) (hR : rm2.frames + 1 ≤ R.frames ∧ 8 + (7 + 11) + rm2.locals ≤ R.locals) (s : State) (args : Array Value) (ht : ∀ w ∈ gTs, w.before args s = true) : CallW R s args "FrameUnwinderModel" "FrameUnwinderModel" 150 y_Md_instruction b_Md_instruction 7 none (gW y_Md_instruction b_Md_instruction 7 none) rm2 0 0 1 :=
  cwV 1 ht (gGIV tb_994 tb_996 sl_Md_instruction tb_12 tb_997) rfl h0 h1 hd_Md_instruction hR
theorem cs_Md_153 {R rm2 : Room} (h0 : rm2.cells = 0) (h1 : rm2.slots = 0) (hR : rm2.frames + 1 ≤ R.frames ∧ 8 + (4 + 11) + rm2.locals ≤ R.locals) (s : State) (args : Array Value) (ht : ∀ w ∈ gTs, w.before args s = true) : CallW R s args "FrameUnwinderModel" "FrameUnwinderModel" 153 y_Md_look b_Md_look 4 (some .int) (gW y_Md_look b_Md_look 4 (some .int)) rm2 0 0 0 :=
  cwV 0 ht (gGIV tb_958 tb_960 sl_Md_look tb_12 tb_961) rfl h0 h1 hd_Md_look hR
theorem cs_Md_158 {R rm2 : Room} (h0 : rm2.cells = 0) (h1 : rm2.slots = 0) (hR : rm2.frames + 1 ≤ R.frames ∧ 8 + (5 + 11) + rm2.locals ≤ R.locals) (s : State) (args : Array Value) (ht : ∀ w ∈ gTs, w.before args s = true) : CallW R s args "FrameUnwinderModel" "FrameUnwinderModel" 158 y_Md_entryOf b_Md_entryOf 5 (some .int) (gW y_Md_entryOf b_Md_entryOf 5 (some .int)) rm2 0 0 1 :=
  cwV 1 ht (gGIV tb_1034 tb_1036 sl_Md_entryOf tb_12 tb_1037) rfl h0 h1 hd_Md_entryOf hR
theorem cs_Md_161 {R rm2 : Room} (h0 : rm2.cells = 0) (h1 : rm2.slots = 0) (hR : rm2.frames + 1 ≤ R.frames ∧ 8 + (5 + 11) + rm2.locals ≤ R.locals) (s : State) (args : Array Value) (ht : ∀ w ∈ gTs, w.before args s = true) : CallW R s args "FrameUnwinderModel" "FrameUnwinderModel" 161 y_Md_rowAt b_Md_rowAt 5 none (gW y_Md_rowAt b_Md_rowAt 5 none) rm2 0 0 2 :=
  cwV 2 ht (gGIV tb_1043 tb_1045 sl_Md_rowAt tb_12 tb_1046) rfl h0 h1 hd_Md_rowAt hR
theorem cs_Md_167 {R rm2 : Room} (h0 : rm2.cells = 0) (h1 : rm2.slots = 0) (hR : rm2.frames + 1 ≤ R.frames ∧ 8 + (2 + 11) + rm2.locals ≤ R.locals) (s : State) (args : Array Value) (ht : ∀ w ∈ gTs, w.before args s = true) : CallW R s args "FrameUnwinderModel" "FrameUnwinderModel" 167 y_Md_push b_Md_push 2 (some .boolean) (gW y_Md_push b_Md_push 2 (some .boolean)) rm2 0 0 1 :=
  cwV 1 ht (gGIV tb_1088 tb_1090 sl_Md_push tb_12 tb_1091) rfl h0 h1 hd_Md_push hR
theorem cs_Md_171 {R rm2 : Room} (h0 : rm2.cells = 0) (h1 : rm2.slots = 0) (hR : rm2.frames + 1 ≤ R.frames ∧ 8 + (1 + 11) + rm2.locals ≤ R.locals) (s : State) (args : Array Value) (ht : ∀ w ∈ gTs, w.before args s = true) : CallB R s args "FrameUnwinderModel" 171 y_Md_isTwo b_Md_isTwo 1 (some .boolean) (gW y_Md_isTwo b_Md_isTwo 1 (some .boolean)) rm2 0 0 1 ∧ (Cond.static y_Md_isTwo).before args s = true :=
  cwS 1 ht (gGIS tb_1074 tb_1075 tb_12 tb_1076) rfl h0 h1 hd_Md_isTwo hR
theorem cs_Md_174 {R rm2 : Room} (h0 : rm2.cells = 0) (h1 : rm2.slots = 0) (hR : rm2.frames + 1 ≤ R.frames ∧ 8 + (2 + 11) + rm2.locals ≤ R.locals) (s : State) (args : Array Value) (ht : ∀ w ∈ gTs, w.before args s = true) : CallW R s args "FrameUnwinderModel" "FrameUnwinderModel" 174 y_Md_lacks b_Md_lacks 2 (some .boolean) (gW y_Md_lacks b_Md_lacks 2 (some .boolean)) rm2 0 0 1 :=
  cwV 1 ht (gGIV tb_1077 tb_1079 sl_Md_lacks tb_12 tb_1080) rfl h0 h1 hd_Md_lacks hR
theorem cs_Md_177 {R rm2 : Room} (h0 : rm2.cells = 0) (h1 : rm2.slots = 0) (hR : rm2.frames + 1 ≤ R.frames ∧ 8 + (3 + 11) + rm2.locals ≤ R.locals) (s : State) (args : Array Value) (ht : ∀ w ∈ gTs, w.before args s = true) : CallB R s args "FrameUnwinderModel" 177 y_Md_two b_Md_two 3 (some .int) (gW y_Md_two b_Md_two 3 (some .int)) rm2 0 0 3 ∧ (Cond.static y_Md_two).before args s = true :=
  cwS 3 ht (gGIS tb_1081 tb_1082 tb_12 tb_1083) rfl h0 h1 hd_Md_two hR
theorem cs_Md_181 {R rm2 : Room} (h0 : rm2.cells = 0) (h1 : rm2.slots = 0) (hR : rm2.frames + 1 ≤ R.frames ∧ 8 + (2 + 11) + rm2.locals ≤ R.locals) (s : State) (args : Array Value) (ht : ∀ w ∈ gTs, w.before args s = true) : CallW R s args "FrameUnwinderModel" "FrameUnwinderModel" 181 y_Md_pushed b_Md_pushed 2 (some .int) (gW y_Md_pushed b_Md_pushed 2 (some .int)) rm2 0 0 1 :=
  cwV 1 ht (gGIV tb_1084 tb_1086 sl_Md_pushed tb_12 tb_1087) rfl h0 h1 hd_Md_pushed hR
theorem cs_Md_184 {R rm2 : Room} (h0 : rm2.cells = 0) (h1 : rm2.slots = 0) (hR : rm2.frames + 1 ≤ R.frames ∧ 8 + (3 + 11) + rm2.locals ≤ R.locals) (s : State) (args : Array Value) (ht : ∀ w ∈ gTs, w.before args s = true) : CallW R s args "FrameUnwinderModel" "FrameUnwinderModel" 184 y_Md_signed b_Md_signed 3 (some .int) (gW y_Md_signed b_Md_signed 3 (some .int)) rm2 0 0 1 :=
  cwV 1 ht (gGIV tb_1092 tb_1094 sl_Md_signed tb_12 tb_1095) rfl h0 h1 hd_Md_signed hR
theorem cs_Md_187 {R rm2 : Room} (h0 : rm2.cells = 0) (h1 : rm2.slots = 0) (hR : rm2.frames + 1 ≤ R.frames ∧ 8 + (5 + 11) + rm2.locals ≤ R.locals) (s : State) (args : Array Value) (ht : ∀ w ∈ gTs, w.before args s = true) : CallW R s args "FrameUnwinderModel" "FrameUnwinderModel" 187 y_Md_jump b_Md_jump 5 (some .int) (gW y_Md_jump b_Md_jump 5 (some .int)) rm2 0 0 2 :=
  cwV 2 ht (gGIV tb_1096 tb_1098 sl_Md_jump tb_12 tb_1099) rfl h0 h1 hd_Md_jump hR
theorem cs_Md_191 {R rm2 : Room} (h0 : rm2.cells = 0) (h1 : rm2.slots = 0) (hR : rm2.frames + 1 ≤ R.frames ∧ 8 + (5 + 11) + rm2.locals ≤ R.locals) (s : State) (args : Array Value) (ht : ∀ w ∈ gTs, w.before args s = true) : CallW R s args "FrameUnwinderModel" "FrameUnwinderModel" 191 y_Md_rearrange b_Md_rearrange 5 (some .int) (gW y_Md_rearrange b_Md_rearrange 5 (some .int)) rm2 0 0 1 :=
  cwV 1 ht (gGIV tb_1100 tb_1102 sl_Md_rearrange tb_12 tb_1103) rfl h0 h1 hd_Md_rearrange hR
theorem cs_Md_194 {R rm2 : Room} (h0 : rm2.cells = 0) (h1 : rm2.slots = 0) (hR : rm2.frames + 1 ≤ R.frames ∧ 8 + (1 + 11) + rm2.locals ≤ R.locals) (s : State) (args : Array Value) (ht : ∀ w ∈ gTs, w.before args s = true) : CallB R s args "FrameUnwinderModel" 194 y_Md_isAddress b_Md_isAddress 1 (some .boolean) (gW y_Md_isAddress b_Md_isAddress 1 (some .boolean)) rm2 0 0 1 ∧ (Cond.static y_Md_isAddress).before args s = true :=
  cwS 1 ht (gGIS tb_1051 tb_1052 tb_12 tb_1053) rfl h0 h1 hd_Md_isAddress hR
theorem cs_Md_197 {R rm2 : Room} (h0 : rm2.cells = 0) (h1 : rm2.slots = 0) (hR : rm2.frames + 1 ≤ R.frames ∧ 8 + (8 + 11) + rm2.locals ≤ R.locals) (s : State) (args : Array Value) (ht : ∀ w ∈ gTs, w.before args s = true) : CallW R s args "FrameUnwinderModel" "FrameUnwinderModel" 197 y_Md_operation b_Md_operation 8 (some .int) (gW y_Md_operation b_Md_operation 8 (some .int)) rm2 0 0 4 :=
  cwV 4 ht (gGIV tb_1070 tb_1072 sl_Md_operation tb_12 tb_1073) rfl h0 h1 hd_Md_operation hR
theorem cs_Md_210 {R rm2 : Room} (h0 : rm2.cells = 0) (h1 : rm2.slots = 0) (hR : rm2.frames + 1 ≤ R.frames ∧ 8 + (8 + 11) + rm2.locals ≤ R.locals) (s : State) (args : Array Value) (ht : ∀ w ∈ gTs, w.before args s = true) : CallW R s args "FrameUnwinderModel" "FrameUnwinderModel" 210 y_Md_evaluate b_Md_evaluate 8 (some .int) (gW y_Md_evaluate b_Md_evaluate 8 (some .int)) rm2 0 0 5 :=
  cwV 5 ht (gGIV tb_1066 tb_1068 sl_Md_evaluate tb_12 tb_1069) rfl h0 h1 hd_Md_evaluate hR
theorem cs_Md_217 {R rm2 : Room} (h0 : rm2.cells = 0) (h1 : rm2.slots = 0) (hR : rm2.frames + 1 ≤ R.frames ∧ 8 + (2 + 11) + rm2.locals ≤ R.locals) (s : State) (args : Array Value) (ht : ∀ w ∈ gTs, w.before args s = true) : CallW R s args "FrameUnwinderModel" "FrameUnwinderModel" 217 y_Md_readWord b_Md_readWord 2 (some .int) (gW y_Md_readWord b_Md_readWord 2 (some .int)) rm2 0 0 1 :=
  cwV 1 ht (gGIV tb_1120 tb_1122 sl_Md_readWord tb_12 tb_1123) rfl h0 h1 hd_Md_readWord hR
theorem cs_Md_220 {R rm2 : Room} (h0 : rm2.cells = 0) (h1 : rm2.slots = 0) (hR : rm2.frames + 1 ≤ R.frames ∧ 8 + (6 + 11) + rm2.locals ≤ R.locals) (s : State) (args : Array Value) (ht : ∀ w ∈ gTs, w.before args s = true) : CallW R s args "FrameUnwinderModel" "FrameUnwinderModel" 220 y_Md_expressionOf b_Md_expressionOf 6 (some .int) (gW y_Md_expressionOf b_Md_expressionOf 6 (some .int)) rm2 0 0 4 :=
  cwV 4 ht (gGIV tb_1124 tb_1126 sl_Md_expressionOf tb_12 tb_1127) rfl h0 h1 hd_Md_expressionOf hR
theorem cs_Md_224 {R rm2 : Room} (h0 : rm2.cells = 0) (h1 : rm2.slots = 0) (hR : rm2.frames + 1 ≤ R.frames ∧ 8 + (2 + 11) + rm2.locals ≤ R.locals) (s : State) (args : Array Value) (ht : ∀ w ∈ gTs, w.before args s = true) : CallW R s args "FrameUnwinderModel" "FrameUnwinderModel" 224 y_Md_cfaNow b_Md_cfaNow 2 (some .int) (gW y_Md_cfaNow b_Md_cfaNow 2 (some .int)) rm2 0 0 1 :=
  cwV 1 ht (gGIV tb_1112 tb_1114 sl_Md_cfaNow tb_12 tb_1115) rfl h0 h1 hd_Md_cfaNow hR
theorem cs_Md_227 {R rm2 : Room} (h0 : rm2.cells = 0) (h1 : rm2.slots = 0) (hR : rm2.frames + 1 ≤ R.frames ∧ 8 + (6 + 11) + rm2.locals ≤ R.locals) (s : State) (args : Array Value) (ht : ∀ w ∈ gTs, w.before args s = true) : CallW R s args "FrameUnwinderModel" "FrameUnwinderModel" 227 y_Md_callers b_Md_callers 6 (some .int) (gW y_Md_callers b_Md_callers 6 (some .int)) rm2 0 0 3 :=
  cwV 3 ht (gGIV tb_1116 tb_1118 sl_Md_callers tb_12 tb_1119) rfl h0 h1 hd_Md_callers hR
theorem cs_Md_230 {R rm2 : Room} (h0 : rm2.cells = 0) (h1 : rm2.slots = 0) (hR : rm2.frames + 1 ≤ R.frames ∧ 8 + (2 + 11) + rm2.locals ≤ R.locals) (s : State) (args : Array Value) (ht : ∀ w ∈ gTs, w.before args s = true) : CallW R s args "FrameUnwinderModel" "FrameUnwinderModel" 230 y_Md_isKnownThen b_Md_isKnownThen 2 (some .boolean) (gW y_Md_isKnownThen b_Md_isKnownThen 2 (some .boolean)) rm2 0 0 1 :=
  cwV 1 ht (gGIV tb_1128 tb_1130 sl_Md_isKnownThen tb_12 tb_1131) rfl h0 h1 hd_Md_isKnownThen hR
theorem cs_Ij_259 {R rm2 : Room} (h0 : rm2.cells = 0) (h1 : rm2.slots = 0) (hR : rm2.frames + 1 ≤ R.frames ∧ 8 + (2 + 11) + rm2.locals ≤ R.locals) (s : State) (args : Array Value) (ht : ∀ w ∈ gTs, w.before args s = true) : CallB R s args "java/lang/Integer" 259 y_Ij_compare b_Ij_compare 2 (some .int) (gW y_Ij_compare b_Ij_compare 2 (some .int)) rm2 0 0 2 ∧ (Cond.static y_Ij_compare).before args s = true :=
  cwS 2 ht (gGIS tb_598 tb_599 tb_21 tb_600) rfl h0 h1 hd_Ij_compare hR
