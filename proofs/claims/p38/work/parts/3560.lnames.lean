abbrev cL_cell : ByteArray := method_2_code
def yL_cell : MethodName := ⟨RL, "cell", "([II)I"⟩
abbrev cL_addPerson : ByteArray := method_3_code
def yL_addPerson : MethodName := ⟨RL, "addPerson", "(LSignatory;)I"⟩
abbrev cL_leave : ByteArray := method_4_code
def yL_leave : MethodName := ⟨RL, "leave", "(LSignatory;II)I"⟩
abbrev cL_comeBack : ByteArray := method_5_code
def yL_comeBack : MethodName := ⟨RL, "comeBack", "(LSignatory;I)I"⟩
abbrev cL_grant : ByteArray := method_6_code
def yL_grant : MethodName := ⟨RL, "grant", "(LSignatory;IICIII)I"⟩
abbrev cL_delegate : ByteArray := method_7_code
def yL_delegate : MethodName := ⟨RL, "delegate", "(LSignatory;IIIII)I"⟩
abbrev cL_lower : ByteArray := method_8_code
def yL_lower : MethodName := ⟨RL, "lower", "(LSignatory;II)I"⟩
abbrev cL_revoke : ByteArray := method_9_code
def yL_revoke : MethodName := ⟨RL, "revoke", "(LSignatory;I)I"⟩
abbrev cL_sign : ByteArray := method_10_code
def yL_sign : MethodName := ⟨RL, "sign", "(LSignatory;IIII)I"⟩
abbrev cL_signTogether : ByteArray := method_11_code
def yL_signTogether : MethodName := ⟨RL, "signTogether", "(LSignatory;IIIII)I"⟩
abbrev cL_ratify : ByteArray := method_12_code
def yL_ratify : MethodName := ⟨RL, "ratify", "(LSignatory;II)I"⟩
abbrev cL_annul : ByteArray := method_13_code
def yL_annul : MethodName := ⟨RL, "annul", "(LSignatory;I)I"⟩
abbrev cL_status : ByteArray := method_14_code
def yL_status : MethodName := ⟨RL, "status", "(LSignatory;I)I"⟩
abbrev cL_sum : ByteArray := method_15_code
def yL_sum : MethodName := ⟨RL, "sum", "(LSignatory;I)I"⟩
abbrev cL_lack : ByteArray := method_16_code
def yL_lack : MethodName := ⟨RL, "lack", "(LSignatory;I)I"⟩
abbrev cL_lackPower : ByteArray := method_17_code
def yL_lackPower : MethodName := ⟨RL, "lackPower", "(LSignatory;I)I"⟩
abbrev cL_lackDepth : ByteArray := method_18_code
def yL_lackDepth : MethodName := ⟨RL, "lackDepth", "(LSignatory;I)I"⟩
abbrev cL_setWindow : ByteArray := method_19_code
def yL_setWindow : MethodName := ⟨RL, "setWindow", "(LSignatory;I)I"⟩
abbrev cL_pass : ByteArray := method_20_code
def yL_pass : MethodName := ⟨RL, "pass", "(LSignatory;I)I"⟩
abbrev cL_standingShare : ByteArray := method_21_code
def yL_standingShare : MethodName := ⟨RL, "standingShare", "(LSignatory;)F"⟩
abbrev cL_stands : ByteArray := method_22_code
def yL_stands : MethodName := ⟨RL, "stands", "(LSignatory;I)I"⟩
abbrev cL_in : ByteArray := method_23_code
def yL_in : MethodName := ⟨RL, "in", "([III)I"⟩
abbrev cL_hand : ByteArray := method_24_code
def yL_hand : MethodName := ⟨RL, "hand", "(I)C"⟩
abbrev cL_isPower : ByteArray := method_25_code
def yL_isPower : MethodName := ⟨RL, "isPower", "(LSignatory;[I[II)Z"⟩
abbrev cL_isDelegated : ByteArray := method_26_code
def yL_isDelegated : MethodName := ⟨RL, "isDelegated", "(LSignatory;[I[II)Z"⟩
abbrev cL_begun : ByteArray := method_27_code
def yL_begun : MethodName := ⟨RL, "begun", "([I[I)LSignatory;"⟩
abbrev cL_acts : ByteArray := method_28_code
def yL_acts : MethodName := ⟨RL, "acts", "([III)Z"⟩
abbrev cL_faulted : ByteArray := method_29_code
def yL_faulted : MethodName := ⟨RL, "faulted", "([III)I"⟩
abbrev cL_has : ByteArray := method_30_code
def yL_has : MethodName := ⟨RL, "has", "([IIIII)Z"⟩
abbrev cL_can : ByteArray := method_31_code
def yL_can : MethodName := ⟨RL, "can", "([IIIII)Z"⟩
abbrev cL_added : ByteArray := method_32_code
def yL_added : MethodName := ⟨RL, "added", "([IIII)I"⟩
abbrev cL_lays : ByteArray := method_33_code
def yL_lays : MethodName := ⟨RL, "lays", "([IIII)V"⟩
abbrev cL_isSigned : ByteArray := method_34_code
def yL_isSigned : MethodName := ⟨RL, "isSigned", "(LSignatory;[I[II)Z"⟩
abbrev cL_isRatified : ByteArray := method_35_code
def yL_isRatified : MethodName := ⟨RL, "isRatified", "(LSignatory;[III)Z"⟩
abbrev cL_isAnnulled : ByteArray := method_36_code
def yL_isAnnulled : MethodName := ⟨RL, "isAnnulled", "(LSignatory;[II)Z"⟩
abbrev cL_isLeft : ByteArray := method_37_code
def yL_isLeft : MethodName := ⟨RL, "isLeft", "(LSignatory;[III)Z"⟩
abbrev cL_isBack : ByteArray := method_38_code
def yL_isBack : MethodName := ⟨RL, "isBack", "(LSignatory;[II)Z"⟩
abbrev cL_isRevoked : ByteArray := method_39_code
def yL_isRevoked : MethodName := ⟨RL, "isRevoked", "(LSignatory;[II)Z"⟩
abbrev cL_isLowered : ByteArray := method_40_code
def yL_isLowered : MethodName := ⟨RL, "isLowered", "(LSignatory;[III)Z"⟩
abbrev cL_isPassed : ByteArray := method_41_code
def yL_isPassed : MethodName := ⟨RL, "isPassed", "(LSignatory;[II)Z"⟩
abbrev cL_isDone : ByteArray := method_42_code
def yL_isDone : MethodName := ⟨RL, "isDone", "(LSignatory;[I[II)Z"⟩
abbrev cL_isTold : ByteArray := method_43_code
def yL_isTold : MethodName := ⟨RL, "isTold", "(LSignatory;[II)Z"⟩
abbrev cL_areFigures : ByteArray := method_44_code
def yL_areFigures : MethodName := ⟨RL, "areFigures", "(LSignatory;[I)Z"⟩
abbrev cL_law : ByteArray := code
def yL_law : MethodName := ⟨RL, "law", "([I)Z"⟩
theorem dL_cell_0 : decode cL_cell 0 = .ok (.ldc 7, 2) := by decide +kernel
theorem dL_cell_2 : decode cL_cell 2 = .ok (.iload_n 1, 1) := by decide +kernel
theorem dL_cell_3 : decode cL_cell 3 = .ok (.aload_n 0, 1) := by decide +kernel
theorem dL_cell_4 : decode cL_cell 4 = .ok (.arraylength, 1) := by decide +kernel
theorem dL_cell_5 : decode cL_cell 5 = .ok (.if_icmp .ge 9, 3) := by decide +kernel
theorem dL_cell_8 : decode cL_cell 8 = .ok (.aload_n 0, 1) := by decide +kernel
theorem dL_cell_9 : decode cL_cell 9 = .ok (.iload_n 1, 1) := by decide +kernel
theorem dL_cell_10 : decode cL_cell 10 = .ok (.iaload, 1) := by decide +kernel
theorem dL_cell_11 : decode cL_cell 11 = .ok (.goto 4, 3) := by decide +kernel
theorem dL_cell_14 : decode cL_cell 14 = .ok (.iconst 0, 1) := by decide +kernel
theorem dL_cell_15 : decode cL_cell 15 = .ok (.sipush 1009, 3) := by decide +kernel
theorem dL_cell_18 : decode cL_cell 18 = .ok (.iload_n 1, 1) := by decide +kernel
theorem dL_cell_19 : decode cL_cell 19 = .ok (.imul, 1) := by decide +kernel
theorem dL_cell_20 : decode cL_cell 20 = .ok (.iadd, 1) := by decide +kernel
theorem dL_cell_21 : decode cL_cell 21 = .ok (.imul, 1) := by decide +kernel
theorem dL_cell_22 : decode cL_cell 22 = .ok (.sipush 12345, 3) := by decide +kernel
theorem dL_cell_25 : decode cL_cell 25 = .ok (.iadd, 1) := by decide +kernel
theorem dL_cell_26 : decode cL_cell 26 = .ok (.istore_n 2, 1) := by decide +kernel
theorem dL_cell_27 : decode cL_cell 27 = .ok (.iload_n 2, 1) := by decide +kernel
theorem dL_cell_28 : decode cL_cell 28 = .ok (.iload_n 2, 1) := by decide +kernel
theorem dL_cell_29 : decode cL_cell 29 = .ok (.bipush 13, 2) := by decide +kernel
theorem dL_cell_31 : decode cL_cell 31 = .ok (.iushr, 1) := by decide +kernel
theorem dL_cell_32 : decode cL_cell 32 = .ok (.ixor, 1) := by decide +kernel
theorem dL_cell_33 : decode cL_cell 33 = .ok (.ldc 8, 2) := by decide +kernel
theorem dL_cell_35 : decode cL_cell 35 = .ok (.imul, 1) := by decide +kernel
theorem dL_cell_36 : decode cL_cell 36 = .ok (.istore_n 2, 1) := by decide +kernel
theorem dL_cell_37 : decode cL_cell 37 = .ok (.iload_n 2, 1) := by decide +kernel
theorem dL_cell_38 : decode cL_cell 38 = .ok (.iload_n 2, 1) := by decide +kernel
theorem dL_cell_39 : decode cL_cell 39 = .ok (.bipush 16, 2) := by decide +kernel
theorem dL_cell_41 : decode cL_cell 41 = .ok (.iushr, 1) := by decide +kernel
theorem dL_cell_42 : decode cL_cell 42 = .ok (.ixor, 1) := by decide +kernel
theorem dL_cell_43 : decode cL_cell 43 = .ok (.ireturn, 1) := by decide +kernel
theorem dL_addPerson_0 : decode cL_addPerson 0 = .ok (.aload_n 0, 1) := by decide +kernel
theorem dL_addPerson_1 : decode cL_addPerson 1 = .ok (.invokevirtual 9, 3) := by decide +kernel
theorem dL_addPerson_4 : decode cL_addPerson 4 = .ok (.ireturn, 1) := by decide +kernel
theorem dL_addPerson_5 : decode cL_addPerson 5 = .ok (.astore_n 1, 1) := by decide +kernel
theorem dL_addPerson_6 : decode cL_addPerson 6 = .ok (.ldc 17, 2) := by decide +kernel
theorem dL_addPerson_8 : decode cL_addPerson 8 = .ok (.ireturn, 1) := by decide +kernel
theorem dL_leave_0 : decode cL_leave 0 = .ok (.aload_n 0, 1) := by decide +kernel
theorem dL_leave_1 : decode cL_leave 1 = .ok (.iload_n 1, 1) := by decide +kernel
theorem dL_leave_2 : decode cL_leave 2 = .ok (.iload_n 2, 1) := by decide +kernel
theorem dL_leave_3 : decode cL_leave 3 = .ok (.invokevirtual 18, 3) := by decide +kernel
theorem dL_leave_6 : decode cL_leave 6 = .ok (.ireturn, 1) := by decide +kernel
theorem dL_leave_7 : decode cL_leave 7 = .ok (.astore_n 3, 1) := by decide +kernel
theorem dL_leave_8 : decode cL_leave 8 = .ok (.ldc 17, 2) := by decide +kernel
theorem dL_leave_10 : decode cL_leave 10 = .ok (.ireturn, 1) := by decide +kernel
theorem dL_leave_11 : decode cL_leave 11 = .ok (.astore_n 3, 1) := by decide +kernel
theorem dL_leave_12 : decode cL_leave 12 = .ok (.ldc 26, 2) := by decide +kernel
theorem dL_leave_14 : decode cL_leave 14 = .ok (.ireturn, 1) := by decide +kernel
theorem dL_comeBack_0 : decode cL_comeBack 0 = .ok (.aload_n 0, 1) := by decide +kernel
theorem dL_comeBack_1 : decode cL_comeBack 1 = .ok (.iload_n 1, 1) := by decide +kernel
theorem dL_comeBack_2 : decode cL_comeBack 2 = .ok (.invokevirtual 27, 3) := by decide +kernel
theorem dL_comeBack_5 : decode cL_comeBack 5 = .ok (.ireturn, 1) := by decide +kernel
theorem dL_comeBack_6 : decode cL_comeBack 6 = .ok (.astore_n 2, 1) := by decide +kernel
theorem dL_comeBack_7 : decode cL_comeBack 7 = .ok (.ldc 17, 2) := by decide +kernel
theorem dL_comeBack_9 : decode cL_comeBack 9 = .ok (.ireturn, 1) := by decide +kernel
theorem dL_comeBack_10 : decode cL_comeBack 10 = .ok (.astore_n 2, 1) := by decide +kernel
theorem dL_comeBack_11 : decode cL_comeBack 11 = .ok (.ldc 26, 2) := by decide +kernel
theorem dL_comeBack_13 : decode cL_comeBack 13 = .ok (.ireturn, 1) := by decide +kernel
theorem dL_grant_0 : decode cL_grant 0 = .ok (.aload_n 0, 1) := by decide +kernel
theorem dL_grant_1 : decode cL_grant 1 = .ok (.iload_n 1, 1) := by decide +kernel
theorem dL_grant_2 : decode cL_grant 2 = .ok (.iload_n 2, 1) := by decide +kernel
theorem dL_grant_3 : decode cL_grant 3 = .ok (.iload_n 3, 1) := by decide +kernel
theorem dL_grant_4 : decode cL_grant 4 = .ok (.iload 4, 2) := by decide +kernel
theorem dL_grant_6 : decode cL_grant 6 = .ok (.iload 5, 2) := by decide +kernel
theorem dL_grant_8 : decode cL_grant 8 = .ok (.iload 6, 2) := by decide +kernel
theorem dL_grant_10 : decode cL_grant 10 = .ok (.invokevirtual 31, 3) := by decide +kernel
theorem dL_grant_13 : decode cL_grant 13 = .ok (.ireturn, 1) := by decide +kernel
theorem dL_grant_14 : decode cL_grant 14 = .ok (.astore 7, 2) := by decide +kernel
theorem dL_grant_16 : decode cL_grant 16 = .ok (.ldc 17, 2) := by decide +kernel
theorem dL_grant_18 : decode cL_grant 18 = .ok (.ireturn, 1) := by decide +kernel
theorem dL_grant_19 : decode cL_grant 19 = .ok (.astore 7, 2) := by decide +kernel
theorem dL_grant_21 : decode cL_grant 21 = .ok (.ldc 26, 2) := by decide +kernel
theorem dL_grant_23 : decode cL_grant 23 = .ok (.ireturn, 1) := by decide +kernel
theorem dL_grant_24 : decode cL_grant 24 = .ok (.astore 7, 2) := by decide +kernel
theorem dL_grant_26 : decode cL_grant 26 = .ok (.ldc 35, 2) := by decide +kernel
theorem dL_grant_28 : decode cL_grant 28 = .ok (.ireturn, 1) := by decide +kernel
theorem dL_delegate_0 : decode cL_delegate 0 = .ok (.aload_n 0, 1) := by decide +kernel
theorem dL_delegate_1 : decode cL_delegate 1 = .ok (.iload_n 1, 1) := by decide +kernel
theorem dL_delegate_2 : decode cL_delegate 2 = .ok (.iload_n 2, 1) := by decide +kernel
theorem dL_delegate_3 : decode cL_delegate 3 = .ok (.iload_n 3, 1) := by decide +kernel
theorem dL_delegate_4 : decode cL_delegate 4 = .ok (.iload 4, 2) := by decide +kernel
theorem dL_delegate_6 : decode cL_delegate 6 = .ok (.iload 5, 2) := by decide +kernel
theorem dL_delegate_8 : decode cL_delegate 8 = .ok (.invokevirtual 36, 3) := by decide +kernel
theorem dL_delegate_11 : decode cL_delegate 11 = .ok (.ireturn, 1) := by decide +kernel
theorem dL_delegate_12 : decode cL_delegate 12 = .ok (.astore 6, 2) := by decide +kernel
theorem dL_delegate_14 : decode cL_delegate 14 = .ok (.ldc 17, 2) := by decide +kernel
theorem dL_delegate_16 : decode cL_delegate 16 = .ok (.ireturn, 1) := by decide +kernel
theorem dL_delegate_17 : decode cL_delegate 17 = .ok (.astore 6, 2) := by decide +kernel
theorem dL_delegate_19 : decode cL_delegate 19 = .ok (.ldc 26, 2) := by decide +kernel
theorem dL_delegate_21 : decode cL_delegate 21 = .ok (.ireturn, 1) := by decide +kernel
theorem dL_delegate_22 : decode cL_delegate 22 = .ok (.astore 6, 2) := by decide +kernel
theorem dL_delegate_24 : decode cL_delegate 24 = .ok (.ldc 35, 2) := by decide +kernel
theorem dL_delegate_26 : decode cL_delegate 26 = .ok (.ireturn, 1) := by decide +kernel
theorem dL_delegate_27 : decode cL_delegate 27 = .ok (.astore 6, 2) := by decide +kernel
theorem dL_delegate_29 : decode cL_delegate 29 = .ok (.ldc 42, 2) := by decide +kernel
theorem dL_delegate_31 : decode cL_delegate 31 = .ok (.ireturn, 1) := by decide +kernel
theorem dL_lower_0 : decode cL_lower 0 = .ok (.aload_n 0, 1) := by decide +kernel
theorem dL_lower_1 : decode cL_lower 1 = .ok (.iload_n 1, 1) := by decide +kernel
theorem dL_lower_2 : decode cL_lower 2 = .ok (.iload_n 2, 1) := by decide +kernel
theorem dL_lower_3 : decode cL_lower 3 = .ok (.invokevirtual 43, 3) := by decide +kernel
theorem dL_lower_6 : decode cL_lower 6 = .ok (.ireturn, 1) := by decide +kernel
theorem dL_lower_7 : decode cL_lower 7 = .ok (.astore_n 3, 1) := by decide +kernel
theorem dL_lower_8 : decode cL_lower 8 = .ok (.ldc 17, 2) := by decide +kernel
theorem dL_lower_10 : decode cL_lower 10 = .ok (.ireturn, 1) := by decide +kernel
theorem dL_lower_11 : decode cL_lower 11 = .ok (.astore_n 3, 1) := by decide +kernel
theorem dL_lower_12 : decode cL_lower 12 = .ok (.ldc 26, 2) := by decide +kernel
theorem dL_lower_14 : decode cL_lower 14 = .ok (.ireturn, 1) := by decide +kernel
theorem dL_revoke_0 : decode cL_revoke 0 = .ok (.aload_n 0, 1) := by decide +kernel
theorem dL_revoke_1 : decode cL_revoke 1 = .ok (.iload_n 1, 1) := by decide +kernel
theorem dL_revoke_2 : decode cL_revoke 2 = .ok (.invokevirtual 46, 3) := by decide +kernel
theorem dL_revoke_5 : decode cL_revoke 5 = .ok (.ireturn, 1) := by decide +kernel
theorem dL_revoke_6 : decode cL_revoke 6 = .ok (.astore_n 2, 1) := by decide +kernel
theorem dL_revoke_7 : decode cL_revoke 7 = .ok (.ldc 17, 2) := by decide +kernel
theorem dL_revoke_9 : decode cL_revoke 9 = .ok (.ireturn, 1) := by decide +kernel
theorem dL_revoke_10 : decode cL_revoke 10 = .ok (.astore_n 2, 1) := by decide +kernel
theorem dL_revoke_11 : decode cL_revoke 11 = .ok (.ldc 26, 2) := by decide +kernel
theorem dL_revoke_13 : decode cL_revoke 13 = .ok (.ireturn, 1) := by decide +kernel
theorem dL_sign_0 : decode cL_sign 0 = .ok (.aload_n 0, 1) := by decide +kernel
theorem dL_sign_1 : decode cL_sign 1 = .ok (.iload_n 1, 1) := by decide +kernel
theorem dL_sign_2 : decode cL_sign 2 = .ok (.iload_n 2, 1) := by decide +kernel
theorem dL_sign_3 : decode cL_sign 3 = .ok (.iload_n 3, 1) := by decide +kernel
theorem dL_sign_4 : decode cL_sign 4 = .ok (.iload 4, 2) := by decide +kernel
theorem dL_sign_6 : decode cL_sign 6 = .ok (.invokevirtual 49, 3) := by decide +kernel
theorem dL_sign_9 : decode cL_sign 9 = .ok (.ireturn, 1) := by decide +kernel
theorem dL_sign_10 : decode cL_sign 10 = .ok (.astore 5, 2) := by decide +kernel
theorem dL_sign_12 : decode cL_sign 12 = .ok (.ldc 17, 2) := by decide +kernel
theorem dL_sign_14 : decode cL_sign 14 = .ok (.ireturn, 1) := by decide +kernel
theorem dL_sign_15 : decode cL_sign 15 = .ok (.astore 5, 2) := by decide +kernel
theorem dL_sign_17 : decode cL_sign 17 = .ok (.ldc 26, 2) := by decide +kernel
theorem dL_sign_19 : decode cL_sign 19 = .ok (.ireturn, 1) := by decide +kernel
theorem dL_sign_20 : decode cL_sign 20 = .ok (.astore 5, 2) := by decide +kernel
theorem dL_sign_22 : decode cL_sign 22 = .ok (.ldc 35, 2) := by decide +kernel
theorem dL_sign_24 : decode cL_sign 24 = .ok (.ireturn, 1) := by decide +kernel
theorem dL_signTogether_0 : decode cL_signTogether 0 = .ok (.aload_n 0, 1) := by decide +kernel
theorem dL_signTogether_1 : decode cL_signTogether 1 = .ok (.iload_n 1, 1) := by decide +kernel
theorem dL_signTogether_2 : decode cL_signTogether 2 = .ok (.iload_n 2, 1) := by decide +kernel
theorem dL_signTogether_3 : decode cL_signTogether 3 = .ok (.iload_n 3, 1) := by decide +kernel
theorem dL_signTogether_4 : decode cL_signTogether 4 = .ok (.iload 4, 2) := by decide +kernel
theorem dL_signTogether_6 : decode cL_signTogether 6 = .ok (.iload 5, 2) := by decide +kernel
theorem dL_signTogether_8 : decode cL_signTogether 8 = .ok (.invokevirtual 53, 3) := by decide +kernel
theorem dL_signTogether_11 : decode cL_signTogether 11 = .ok (.ireturn, 1) := by decide +kernel
theorem dL_signTogether_12 : decode cL_signTogether 12 = .ok (.astore 6, 2) := by decide +kernel
theorem dL_signTogether_14 : decode cL_signTogether 14 = .ok (.ldc 17, 2) := by decide +kernel
theorem dL_signTogether_16 : decode cL_signTogether 16 = .ok (.ireturn, 1) := by decide +kernel
theorem dL_signTogether_17 : decode cL_signTogether 17 = .ok (.astore 6, 2) := by decide +kernel
theorem dL_signTogether_19 : decode cL_signTogether 19 = .ok (.ldc 26, 2) := by decide +kernel
theorem dL_signTogether_21 : decode cL_signTogether 21 = .ok (.ireturn, 1) := by decide +kernel
theorem dL_signTogether_22 : decode cL_signTogether 22 = .ok (.astore 6, 2) := by decide +kernel
theorem dL_signTogether_24 : decode cL_signTogether 24 = .ok (.ldc 35, 2) := by decide +kernel
theorem dL_signTogether_26 : decode cL_signTogether 26 = .ok (.ireturn, 1) := by decide +kernel
theorem dL_signTogether_27 : decode cL_signTogether 27 = .ok (.astore 6, 2) := by decide +kernel
theorem dL_signTogether_29 : decode cL_signTogether 29 = .ok (.ldc 42, 2) := by decide +kernel
theorem dL_signTogether_31 : decode cL_signTogether 31 = .ok (.ireturn, 1) := by decide +kernel
theorem dL_ratify_0 : decode cL_ratify 0 = .ok (.aload_n 0, 1) := by decide +kernel
theorem dL_ratify_1 : decode cL_ratify 1 = .ok (.iload_n 1, 1) := by decide +kernel
theorem dL_ratify_2 : decode cL_ratify 2 = .ok (.iload_n 2, 1) := by decide +kernel
theorem dL_ratify_3 : decode cL_ratify 3 = .ok (.invokevirtual 56, 3) := by decide +kernel
theorem dL_ratify_6 : decode cL_ratify 6 = .ok (.ireturn, 1) := by decide +kernel
theorem dL_ratify_7 : decode cL_ratify 7 = .ok (.astore_n 3, 1) := by decide +kernel
theorem dL_ratify_8 : decode cL_ratify 8 = .ok (.ldc 17, 2) := by decide +kernel
theorem dL_ratify_10 : decode cL_ratify 10 = .ok (.ireturn, 1) := by decide +kernel
theorem dL_ratify_11 : decode cL_ratify 11 = .ok (.astore_n 3, 1) := by decide +kernel
theorem dL_ratify_12 : decode cL_ratify 12 = .ok (.ldc 26, 2) := by decide +kernel
theorem dL_ratify_14 : decode cL_ratify 14 = .ok (.ireturn, 1) := by decide +kernel
theorem dL_ratify_15 : decode cL_ratify 15 = .ok (.astore_n 3, 1) := by decide +kernel
theorem dL_ratify_16 : decode cL_ratify 16 = .ok (.ldc 35, 2) := by decide +kernel
theorem dL_ratify_18 : decode cL_ratify 18 = .ok (.ireturn, 1) := by decide +kernel
theorem dL_annul_0 : decode cL_annul 0 = .ok (.aload_n 0, 1) := by decide +kernel
theorem dL_annul_1 : decode cL_annul 1 = .ok (.iload_n 1, 1) := by decide +kernel
theorem dL_annul_2 : decode cL_annul 2 = .ok (.invokevirtual 59, 3) := by decide +kernel
theorem dL_annul_5 : decode cL_annul 5 = .ok (.ireturn, 1) := by decide +kernel
theorem dL_annul_6 : decode cL_annul 6 = .ok (.astore_n 2, 1) := by decide +kernel
theorem dL_annul_7 : decode cL_annul 7 = .ok (.ldc 17, 2) := by decide +kernel
theorem dL_annul_9 : decode cL_annul 9 = .ok (.ireturn, 1) := by decide +kernel
theorem dL_annul_10 : decode cL_annul 10 = .ok (.astore_n 2, 1) := by decide +kernel
theorem dL_annul_11 : decode cL_annul 11 = .ok (.ldc 26, 2) := by decide +kernel
theorem dL_annul_13 : decode cL_annul 13 = .ok (.ireturn, 1) := by decide +kernel
theorem dL_status_0 : decode cL_status 0 = .ok (.aload_n 0, 1) := by decide +kernel
theorem dL_status_1 : decode cL_status 1 = .ok (.iload_n 1, 1) := by decide +kernel
theorem dL_status_2 : decode cL_status 2 = .ok (.invokevirtual 62, 3) := by decide +kernel
theorem dL_status_5 : decode cL_status 5 = .ok (.ireturn, 1) := by decide +kernel
theorem dL_status_6 : decode cL_status 6 = .ok (.astore_n 2, 1) := by decide +kernel
theorem dL_status_7 : decode cL_status 7 = .ok (.ldc 17, 2) := by decide +kernel
theorem dL_status_9 : decode cL_status 9 = .ok (.ireturn, 1) := by decide +kernel
theorem dL_sum_0 : decode cL_sum 0 = .ok (.aload_n 0, 1) := by decide +kernel
theorem dL_sum_1 : decode cL_sum 1 = .ok (.iload_n 1, 1) := by decide +kernel
theorem dL_sum_2 : decode cL_sum 2 = .ok (.invokevirtual 66, 3) := by decide +kernel
theorem dL_sum_5 : decode cL_sum 5 = .ok (.ireturn, 1) := by decide +kernel
theorem dL_sum_6 : decode cL_sum 6 = .ok (.astore_n 2, 1) := by decide +kernel
theorem dL_sum_7 : decode cL_sum 7 = .ok (.ldc 17, 2) := by decide +kernel
theorem dL_sum_9 : decode cL_sum 9 = .ok (.ireturn, 1) := by decide +kernel
theorem dL_lack_0 : decode cL_lack 0 = .ok (.aload_n 0, 1) := by decide +kernel
theorem dL_lack_1 : decode cL_lack 1 = .ok (.iload_n 1, 1) := by decide +kernel
theorem dL_lack_2 : decode cL_lack 2 = .ok (.invokevirtual 69, 3) := by decide +kernel
theorem dL_lack_5 : decode cL_lack 5 = .ok (.ireturn, 1) := by decide +kernel
theorem dL_lack_6 : decode cL_lack 6 = .ok (.astore_n 2, 1) := by decide +kernel
theorem dL_lack_7 : decode cL_lack 7 = .ok (.ldc 17, 2) := by decide +kernel
theorem dL_lack_9 : decode cL_lack 9 = .ok (.ireturn, 1) := by decide +kernel
theorem dL_lack_10 : decode cL_lack 10 = .ok (.astore_n 2, 1) := by decide +kernel
theorem dL_lack_11 : decode cL_lack 11 = .ok (.ldc 26, 2) := by decide +kernel
theorem dL_lack_13 : decode cL_lack 13 = .ok (.ireturn, 1) := by decide +kernel
theorem dL_lackPower_0 : decode cL_lackPower 0 = .ok (.aload_n 0, 1) := by decide +kernel
theorem dL_lackPower_1 : decode cL_lackPower 1 = .ok (.iload_n 1, 1) := by decide +kernel
theorem dL_lackPower_2 : decode cL_lackPower 2 = .ok (.invokevirtual 74, 3) := by decide +kernel
theorem dL_lackPower_5 : decode cL_lackPower 5 = .ok (.ireturn, 1) := by decide +kernel
theorem dL_lackPower_6 : decode cL_lackPower 6 = .ok (.astore_n 2, 1) := by decide +kernel
theorem dL_lackPower_7 : decode cL_lackPower 7 = .ok (.ldc 17, 2) := by decide +kernel
theorem dL_lackPower_9 : decode cL_lackPower 9 = .ok (.ireturn, 1) := by decide +kernel
theorem dL_lackPower_10 : decode cL_lackPower 10 = .ok (.astore_n 2, 1) := by decide +kernel
theorem dL_lackPower_11 : decode cL_lackPower 11 = .ok (.ldc 26, 2) := by decide +kernel
theorem dL_lackPower_13 : decode cL_lackPower 13 = .ok (.ireturn, 1) := by decide +kernel
theorem dL_lackDepth_0 : decode cL_lackDepth 0 = .ok (.aload_n 0, 1) := by decide +kernel
theorem dL_lackDepth_1 : decode cL_lackDepth 1 = .ok (.iload_n 1, 1) := by decide +kernel
theorem dL_lackDepth_2 : decode cL_lackDepth 2 = .ok (.invokevirtual 77, 3) := by decide +kernel
theorem dL_lackDepth_5 : decode cL_lackDepth 5 = .ok (.ireturn, 1) := by decide +kernel
theorem dL_lackDepth_6 : decode cL_lackDepth 6 = .ok (.astore_n 2, 1) := by decide +kernel
theorem dL_lackDepth_7 : decode cL_lackDepth 7 = .ok (.ldc 17, 2) := by decide +kernel
theorem dL_lackDepth_9 : decode cL_lackDepth 9 = .ok (.ireturn, 1) := by decide +kernel
theorem dL_lackDepth_10 : decode cL_lackDepth 10 = .ok (.astore_n 2, 1) := by decide +kernel
theorem dL_lackDepth_11 : decode cL_lackDepth 11 = .ok (.ldc 26, 2) := by decide +kernel
theorem dL_lackDepth_13 : decode cL_lackDepth 13 = .ok (.ireturn, 1) := by decide +kernel
theorem dL_setWindow_0 : decode cL_setWindow 0 = .ok (.aload_n 0, 1) := by decide +kernel
theorem dL_setWindow_1 : decode cL_setWindow 1 = .ok (.iload_n 1, 1) := by decide +kernel
theorem dL_setWindow_2 : decode cL_setWindow 2 = .ok (.invokevirtual 80, 3) := by decide +kernel
theorem dL_setWindow_5 : decode cL_setWindow 5 = .ok (.ireturn, 1) := by decide +kernel
theorem dL_setWindow_6 : decode cL_setWindow 6 = .ok (.astore_n 2, 1) := by decide +kernel
theorem dL_setWindow_7 : decode cL_setWindow 7 = .ok (.ldc 17, 2) := by decide +kernel
theorem dL_setWindow_9 : decode cL_setWindow 9 = .ok (.ireturn, 1) := by decide +kernel
theorem dL_pass_0 : decode cL_pass 0 = .ok (.aload_n 0, 1) := by decide +kernel
theorem dL_pass_1 : decode cL_pass 1 = .ok (.iload_n 1, 1) := by decide +kernel
theorem dL_pass_2 : decode cL_pass 2 = .ok (.invokevirtual 83, 3) := by decide +kernel
theorem dL_pass_5 : decode cL_pass 5 = .ok (.ireturn, 1) := by decide +kernel
theorem dL_pass_6 : decode cL_pass 6 = .ok (.astore_n 2, 1) := by decide +kernel
theorem dL_pass_7 : decode cL_pass 7 = .ok (.ldc 17, 2) := by decide +kernel
theorem dL_pass_9 : decode cL_pass 9 = .ok (.ireturn, 1) := by decide +kernel
theorem dL_standingShare_0 : decode cL_standingShare 0 = .ok (.aload_n 0, 1) := by decide +kernel
theorem dL_standingShare_1 : decode cL_standingShare 1 = .ok (.invokevirtual 86, 3) := by decide +kernel
theorem dL_standingShare_4 : decode cL_standingShare 4 = .ok (.freturn, 1) := by decide +kernel
theorem dL_standingShare_5 : decode cL_standingShare 5 = .ok (.astore_n 1, 1) := by decide +kernel
theorem dL_standingShare_6 : decode cL_standingShare 6 = .ok (.ldc 90, 2) := by decide +kernel
theorem dL_standingShare_8 : decode cL_standingShare 8 = .ok (.freturn, 1) := by decide +kernel
theorem dL_stands_0 : decode cL_stands 0 = .ok (.aload_n 0, 1) := by decide +kernel
theorem dL_stands_1 : decode cL_stands 1 = .ok (.iload_n 1, 1) := by decide +kernel
theorem dL_stands_2 : decode cL_stands 2 = .ok (.invokevirtual 91, 3) := by decide +kernel
theorem dL_stands_5 : decode cL_stands 5 = .ok (.ifCond .eq 7, 3) := by decide +kernel
theorem dL_stands_8 : decode cL_stands 8 = .ok (.iconst 1, 1) := by decide +kernel
theorem dL_stands_9 : decode cL_stands 9 = .ok (.goto 4, 3) := by decide +kernel
theorem dL_stands_12 : decode cL_stands 12 = .ok (.iconst 0, 1) := by decide +kernel
theorem dL_stands_13 : decode cL_stands 13 = .ok (.ireturn, 1) := by decide +kernel
theorem dL_stands_14 : decode cL_stands 14 = .ok (.astore_n 2, 1) := by decide +kernel
theorem dL_stands_15 : decode cL_stands 15 = .ok (.ldc 17, 2) := by decide +kernel
theorem dL_stands_17 : decode cL_stands 17 = .ok (.ireturn, 1) := by decide +kernel
theorem dL_in_0 : decode cL_in 0 = .ok (.aload_n 0, 1) := by decide +kernel
theorem dL_in_1 : decode cL_in 1 = .ok (.iload_n 1, 1) := by decide +kernel
theorem dL_in_2 : decode cL_in 2 = .ok (.invokestatic 95, 3) := by decide +kernel
theorem dL_in_5 : decode cL_in 5 = .ok (.ldc 101, 2) := by decide +kernel
theorem dL_in_7 : decode cL_in 7 = .ok (.iand, 1) := by decide +kernel
theorem dL_in_8 : decode cL_in 8 = .ok (.iload_n 2, 1) := by decide +kernel
theorem dL_in_9 : decode cL_in 9 = .ok (.irem, 1) := by decide +kernel
theorem dL_in_10 : decode cL_in 10 = .ok (.ireturn, 1) := by decide +kernel
theorem dL_hand_0 : decode cL_hand 0 = .ok (.iload_n 0, 1) := by decide +kernel
theorem dL_hand_1 : decode cL_hand 1 = .ok (.ifCond .ne 8, 3) := by decide +kernel
theorem dL_hand_4 : decode cL_hand 4 = .ok (.bipush 115, 2) := by decide +kernel
theorem dL_hand_6 : decode cL_hand 6 = .ok (.goto 15, 3) := by decide +kernel
theorem dL_hand_9 : decode cL_hand 9 = .ok (.iload_n 0, 1) := by decide +kernel
theorem dL_hand_10 : decode cL_hand 10 = .ok (.iconst 1, 1) := by decide +kernel
theorem dL_hand_11 : decode cL_hand 11 = .ok (.if_icmp .ne 8, 3) := by decide +kernel
theorem dL_hand_14 : decode cL_hand 14 = .ok (.bipush 97, 2) := by decide +kernel
theorem dL_hand_16 : decode cL_hand 16 = .ok (.goto 5, 3) := by decide +kernel
theorem dL_hand_19 : decode cL_hand 19 = .ok (.bipush 98, 2) := by decide +kernel
theorem dL_hand_21 : decode cL_hand 21 = .ok (.ireturn, 1) := by decide +kernel
theorem dL_isPower_0 : decode cL_isPower 0 = .ok (.bipush 30, 2) := by decide +kernel
theorem dL_isPower_2 : decode cL_isPower 2 = .ok (.bipush 8, 2) := by decide +kernel
theorem dL_isPower_4 : decode cL_isPower 4 = .ok (.aload_n 1, 1) := by decide +kernel
theorem dL_isPower_5 : decode cL_isPower 5 = .ok (.iconst 1, 1) := by decide +kernel
theorem dL_isPower_6 : decode cL_isPower 6 = .ok (.iaload, 1) := by decide +kernel
theorem dL_isPower_7 : decode cL_isPower 7 = .ok (.imul, 1) := by decide +kernel
theorem dL_isPower_8 : decode cL_isPower 8 = .ok (.iadd, 1) := by decide +kernel
theorem dL_isPower_9 : decode cL_isPower 9 = .ok (.istore 4, 2) := by decide +kernel
theorem dL_isPower_11 : decode cL_isPower 11 = .ok (.aload_n 2, 1) := by decide +kernel
theorem dL_isPower_12 : decode cL_isPower 12 = .ok (.iload_n 3, 1) := by decide +kernel
theorem dL_isPower_13 : decode cL_isPower 13 = .ok (.aload_n 1, 1) := by decide +kernel
theorem dL_isPower_14 : decode cL_isPower 14 = .ok (.iconst 0, 1) := by decide +kernel
theorem dL_isPower_15 : decode cL_isPower 15 = .ok (.iaload, 1) := by decide +kernel
theorem dL_isPower_16 : decode cL_isPower 16 = .ok (.invokestatic 102, 3) := by decide +kernel
theorem dL_isPower_19 : decode cL_isPower 19 = .ok (.istore 5, 2) := by decide +kernel
theorem dL_isPower_21 : decode cL_isPower 21 = .ok (.aload_n 2, 1) := by decide +kernel
theorem dL_isPower_22 : decode cL_isPower 22 = .ok (.iload_n 3, 1) := by decide +kernel
theorem dL_isPower_23 : decode cL_isPower 23 = .ok (.iconst 1, 1) := by decide +kernel
theorem dL_isPower_24 : decode cL_isPower 24 = .ok (.iadd, 1) := by decide +kernel
theorem dL_isPower_25 : decode cL_isPower 25 = .ok (.iconst 5, 1) := by decide +kernel
theorem dL_isPower_26 : decode cL_isPower 26 = .ok (.invokestatic 102, 3) := by decide +kernel
theorem dL_isPower_29 : decode cL_isPower 29 = .ok (.ifCond .ne 7, 3) := by decide +kernel
theorem dL_isPower_32 : decode cL_isPower 32 = .ok (.iconst 1, 1) := by decide +kernel
theorem dL_isPower_33 : decode cL_isPower 33 = .ok (.goto 4, 3) := by decide +kernel
theorem dL_isPower_36 : decode cL_isPower 36 = .ok (.iconst 0, 1) := by decide +kernel
theorem dL_isPower_37 : decode cL_isPower 37 = .ok (.istore 6, 2) := by decide +kernel
theorem dL_isPower_39 : decode cL_isPower 39 = .ok (.aload_n 2, 1) := by decide +kernel
theorem dL_isPower_40 : decode cL_isPower 40 = .ok (.iload_n 3, 1) := by decide +kernel
theorem dL_isPower_41 : decode cL_isPower 41 = .ok (.iconst 2, 1) := by decide +kernel
theorem dL_isPower_42 : decode cL_isPower 42 = .ok (.iadd, 1) := by decide +kernel
theorem dL_isPower_43 : decode cL_isPower 43 = .ok (.iconst 3, 1) := by decide +kernel
theorem dL_isPower_44 : decode cL_isPower 44 = .ok (.invokestatic 102, 3) := by decide +kernel
theorem dL_isPower_47 : decode cL_isPower 47 = .ok (.istore 7, 2) := by decide +kernel
theorem dL_isPower_49 : decode cL_isPower 49 = .ok (.iconst 1, 1) := by decide +kernel
theorem dL_isPower_50 : decode cL_isPower 50 = .ok (.aload_n 2, 1) := by decide +kernel
theorem dL_isPower_51 : decode cL_isPower 51 = .ok (.iload_n 3, 1) := by decide +kernel
theorem dL_isPower_52 : decode cL_isPower 52 = .ok (.iconst 3, 1) := by decide +kernel
theorem dL_isPower_53 : decode cL_isPower 53 = .ok (.iadd, 1) := by decide +kernel
theorem dL_isPower_54 : decode cL_isPower 54 = .ok (.aload_n 2, 1) := by decide +kernel
theorem dL_isPower_55 : decode cL_isPower 55 = .ok (.iload_n 3, 1) := by decide +kernel
theorem dL_isPower_56 : decode cL_isPower 56 = .ok (.iconst 4, 1) := by decide +kernel
theorem dL_isPower_57 : decode cL_isPower 57 = .ok (.iadd, 1) := by decide +kernel
theorem dL_isPower_58 : decode cL_isPower 58 = .ok (.iconst 3, 1) := by decide +kernel
theorem dL_isPower_59 : decode cL_isPower 59 = .ok (.invokestatic 102, 3) := by decide +kernel
theorem dL_isPower_62 : decode cL_isPower 62 = .ok (.ifCond .ne 8, 3) := by decide +kernel
theorem dL_isPower_65 : decode cL_isPower 65 = .ok (.ldc 106, 2) := by decide +kernel
theorem dL_isPower_67 : decode cL_isPower 67 = .ok (.goto 6, 3) := by decide +kernel
theorem dL_isPower_70 : decode cL_isPower 70 = .ok (.sipush 3000, 3) := by decide +kernel
theorem dL_isPower_73 : decode cL_isPower 73 = .ok (.invokestatic 102, 3) := by decide +kernel
theorem dL_isPower_76 : decode cL_isPower 76 = .ok (.iadd, 1) := by decide +kernel
theorem dL_isPower_77 : decode cL_isPower 77 = .ok (.istore 8, 2) := by decide +kernel
theorem dL_isPower_79 : decode cL_isPower 79 = .ok (.iconst 0, 1) := by decide +kernel
theorem dL_isPower_80 : decode cL_isPower 80 = .ok (.aload_n 1, 1) := by decide +kernel
theorem dL_isPower_81 : decode cL_isPower 81 = .ok (.iconst 3, 1) := by decide +kernel
theorem dL_isPower_82 : decode cL_isPower 82 = .ok (.iaload, 1) := by decide +kernel
theorem dL_isPower_83 : decode cL_isPower 83 = .ok (.aload_n 2, 1) := by decide +kernel
theorem dL_isPower_84 : decode cL_isPower 84 = .ok (.iload_n 3, 1) := by decide +kernel
theorem dL_isPower_85 : decode cL_isPower 85 = .ok (.iconst 5, 1) := by decide +kernel
theorem dL_isPower_86 : decode cL_isPower 86 = .ok (.iadd, 1) := by decide +kernel
theorem dL_isPower_87 : decode cL_isPower 87 = .ok (.bipush 8, 2) := by decide +kernel
theorem dL_isPower_89 : decode cL_isPower 89 = .ok (.invokestatic 102, 3) := by decide +kernel
theorem dL_isPower_92 : decode cL_isPower 92 = .ok (.isub, 1) := by decide +kernel
theorem dL_isPower_93 : decode cL_isPower 93 = .ok (.aload_n 2, 1) := by decide +kernel
theorem dL_isPower_94 : decode cL_isPower 94 = .ok (.iload_n 3, 1) := by decide +kernel
theorem dL_isPower_95 : decode cL_isPower 95 = .ok (.bipush 6, 2) := by decide +kernel
theorem dL_isPower_97 : decode cL_isPower 97 = .ok (.iadd, 1) := by decide +kernel
theorem dL_isPower_98 : decode cL_isPower 98 = .ok (.bipush 6, 2) := by decide +kernel
theorem dL_isPower_100 : decode cL_isPower 100 = .ok (.invokestatic 102, 3) := by decide +kernel
theorem dL_isPower_103 : decode cL_isPower 103 = .ok (.iadd, 1) := by decide +kernel
theorem dL_isPower_104 : decode cL_isPower 104 = .ok (.invokestatic 107, 3) := by decide +kernel
theorem dL_isPower_107 : decode cL_isPower 107 = .ok (.istore 9, 2) := by decide +kernel
theorem dL_isPower_109 : decode cL_isPower 109 = .ok (.iload 9, 2) := by decide +kernel
theorem dL_isPower_111 : decode cL_isPower 111 = .ok (.aload_n 2, 1) := by decide +kernel
theorem dL_isPower_112 : decode cL_isPower 112 = .ok (.iload_n 3, 1) := by decide +kernel
theorem dL_isPower_113 : decode cL_isPower 113 = .ok (.bipush 7, 2) := by decide +kernel
theorem dL_isPower_115 : decode cL_isPower 115 = .ok (.iadd, 1) := by decide +kernel
theorem dL_isPower_116 : decode cL_isPower 116 = .ok (.bipush 50, 2) := by decide +kernel
theorem dL_isPower_118 : decode cL_isPower 118 = .ok (.invokestatic 102, 3) := by decide +kernel
theorem dL_isPower_121 : decode cL_isPower 121 = .ok (.iadd, 1) := by decide +kernel
theorem dL_isPower_122 : decode cL_isPower 122 = .ok (.istore 10, 2) := by decide +kernel
theorem dL_isPower_124 : decode cL_isPower 124 = .ok (.aload_n 1, 1) := by decide +kernel
theorem dL_isPower_125 : decode cL_isPower 125 = .ok (.iconst 1, 1) := by decide +kernel
theorem dL_isPower_126 : decode cL_isPower 126 = .ok (.iaload, 1) := by decide +kernel
theorem dL_isPower_127 : decode cL_isPower 127 = .ok (.bipush 20, 2) := by decide +kernel
theorem dL_isPower_129 : decode cL_isPower 129 = .ok (.if_icmp .ne 33, 3) := by decide +kernel
theorem dL_isPower_132 : decode cL_isPower 132 = .ok (.aload_n 0, 1) := by decide +kernel
theorem dL_isPower_133 : decode cL_isPower 133 = .ok (.iload 5, 2) := by decide +kernel
theorem dL_isPower_135 : decode cL_isPower 135 = .ok (.iload 6, 2) := by decide +kernel
theorem dL_isPower_137 : decode cL_isPower 137 = .ok (.iload 7, 2) := by decide +kernel
theorem dL_isPower_139 : decode cL_isPower 139 = .ok (.invokestatic 112, 3) := by decide +kernel
theorem dL_isPower_142 : decode cL_isPower 142 = .ok (.iload 8, 2) := by decide +kernel
theorem dL_isPower_144 : decode cL_isPower 144 = .ok (.iload 9, 2) := by decide +kernel
theorem dL_isPower_146 : decode cL_isPower 146 = .ok (.iload 10, 2) := by decide +kernel
theorem dL_isPower_148 : decode cL_isPower 148 = .ok (.invokestatic 115, 3) := by decide +kernel
theorem dL_isPower_151 : decode cL_isPower 151 = .ok (.ldc 35, 2) := by decide +kernel
theorem dL_isPower_153 : decode cL_isPower 153 = .ok (.if_icmp .ne 7, 3) := by decide +kernel
theorem dL_isPower_156 : decode cL_isPower 156 = .ok (.iconst 1, 1) := by decide +kernel
theorem dL_isPower_157 : decode cL_isPower 157 = .ok (.goto 4, 3) := by decide +kernel
theorem dL_isPower_160 : decode cL_isPower 160 = .ok (.iconst 0, 1) := by decide +kernel
theorem dL_isPower_161 : decode cL_isPower 161 = .ok (.ireturn, 1) := by decide +kernel
theorem dL_isPower_162 : decode cL_isPower 162 = .ok (.aload_n 1, 1) := by decide +kernel
theorem dL_isPower_163 : decode cL_isPower 163 = .ok (.iload 4, 2) := by decide +kernel
theorem dL_isPower_165 : decode cL_isPower 165 = .ok (.iload 5, 2) := by decide +kernel
theorem dL_isPower_167 : decode cL_isPower 167 = .ok (.iastore, 1) := by decide +kernel
theorem dL_isPower_168 : decode cL_isPower 168 = .ok (.aload_n 1, 1) := by decide +kernel
theorem dL_isPower_169 : decode cL_isPower 169 = .ok (.iload 4, 2) := by decide +kernel
theorem dL_isPower_171 : decode cL_isPower 171 = .ok (.iconst 1, 1) := by decide +kernel
theorem dL_isPower_172 : decode cL_isPower 172 = .ok (.iadd, 1) := by decide +kernel
theorem dL_isPower_173 : decode cL_isPower 173 = .ok (.iload 6, 2) := by decide +kernel
theorem dL_isPower_175 : decode cL_isPower 175 = .ok (.iastore, 1) := by decide +kernel
theorem dL_isPower_176 : decode cL_isPower 176 = .ok (.aload_n 1, 1) := by decide +kernel
theorem dL_isPower_177 : decode cL_isPower 177 = .ok (.iload 4, 2) := by decide +kernel
theorem dL_isPower_179 : decode cL_isPower 179 = .ok (.iconst 2, 1) := by decide +kernel
theorem dL_isPower_180 : decode cL_isPower 180 = .ok (.iadd, 1) := by decide +kernel
theorem dL_isPower_181 : decode cL_isPower 181 = .ok (.iload 7, 2) := by decide +kernel
theorem dL_isPower_183 : decode cL_isPower 183 = .ok (.iastore, 1) := by decide +kernel
theorem dL_isPower_184 : decode cL_isPower 184 = .ok (.aload_n 1, 1) := by decide +kernel
theorem dL_isPower_185 : decode cL_isPower 185 = .ok (.iload 4, 2) := by decide +kernel
theorem dL_isPower_187 : decode cL_isPower 187 = .ok (.iconst 3, 1) := by decide +kernel
theorem dL_isPower_188 : decode cL_isPower 188 = .ok (.iadd, 1) := by decide +kernel
theorem dL_isPower_189 : decode cL_isPower 189 = .ok (.iload 8, 2) := by decide +kernel
theorem dL_isPower_191 : decode cL_isPower 191 = .ok (.iastore, 1) := by decide +kernel
theorem dL_isPower_192 : decode cL_isPower 192 = .ok (.aload_n 1, 1) := by decide +kernel
theorem dL_isPower_193 : decode cL_isPower 193 = .ok (.iload 4, 2) := by decide +kernel
theorem dL_isPower_195 : decode cL_isPower 195 = .ok (.iconst 4, 1) := by decide +kernel
theorem dL_isPower_196 : decode cL_isPower 196 = .ok (.iadd, 1) := by decide +kernel
theorem dL_isPower_197 : decode cL_isPower 197 = .ok (.iload 9, 2) := by decide +kernel
theorem dL_isPower_199 : decode cL_isPower 199 = .ok (.iastore, 1) := by decide +kernel
theorem dL_isPower_200 : decode cL_isPower 200 = .ok (.aload_n 1, 1) := by decide +kernel
theorem dL_isPower_201 : decode cL_isPower 201 = .ok (.iload 4, 2) := by decide +kernel
theorem dL_isPower_203 : decode cL_isPower 203 = .ok (.iconst 5, 1) := by decide +kernel
theorem dL_isPower_204 : decode cL_isPower 204 = .ok (.iadd, 1) := by decide +kernel
theorem dL_isPower_205 : decode cL_isPower 205 = .ok (.iload 10, 2) := by decide +kernel
theorem dL_isPower_207 : decode cL_isPower 207 = .ok (.iastore, 1) := by decide +kernel
theorem dL_isPower_208 : decode cL_isPower 208 = .ok (.aload_n 1, 1) := by decide +kernel
theorem dL_isPower_209 : decode cL_isPower 209 = .ok (.iload 4, 2) := by decide +kernel
theorem dL_isPower_211 : decode cL_isPower 211 = .ok (.bipush 6, 2) := by decide +kernel
theorem dL_isPower_213 : decode cL_isPower 213 = .ok (.iadd, 1) := by decide +kernel
theorem dL_isPower_214 : decode cL_isPower 214 = .ok (.iconst (-1), 1) := by decide +kernel
theorem dL_isPower_215 : decode cL_isPower 215 = .ok (.iastore, 1) := by decide +kernel
theorem dL_isPower_216 : decode cL_isPower 216 = .ok (.aload_n 1, 1) := by decide +kernel
theorem dL_isPower_217 : decode cL_isPower 217 = .ok (.iconst 1, 1) := by decide +kernel
theorem dL_isPower_218 : decode cL_isPower 218 = .ok (.dup2, 1) := by decide +kernel
theorem dL_isPower_219 : decode cL_isPower 219 = .ok (.iaload, 1) := by decide +kernel
theorem dL_isPower_220 : decode cL_isPower 220 = .ok (.iconst 1, 1) := by decide +kernel
theorem dL_isPower_221 : decode cL_isPower 221 = .ok (.iadd, 1) := by decide +kernel
theorem dL_isPower_222 : decode cL_isPower 222 = .ok (.iastore, 1) := by decide +kernel
theorem dL_isPower_223 : decode cL_isPower 223 = .ok (.aload_n 0, 1) := by decide +kernel
theorem dL_isPower_224 : decode cL_isPower 224 = .ok (.iload 5, 2) := by decide +kernel
theorem dL_isPower_226 : decode cL_isPower 226 = .ok (.iload 6, 2) := by decide +kernel
theorem dL_isPower_228 : decode cL_isPower 228 = .ok (.iload 7, 2) := by decide +kernel
theorem dL_isPower_230 : decode cL_isPower 230 = .ok (.invokestatic 112, 3) := by decide +kernel
theorem dL_isPower_233 : decode cL_isPower 233 = .ok (.iload 8, 2) := by decide +kernel
theorem dL_isPower_235 : decode cL_isPower 235 = .ok (.iload 9, 2) := by decide +kernel
theorem dL_isPower_237 : decode cL_isPower 237 = .ok (.iload 10, 2) := by decide +kernel
theorem dL_isPower_239 : decode cL_isPower 239 = .ok (.invokestatic 115, 3) := by decide +kernel
theorem dL_isPower_242 : decode cL_isPower 242 = .ok (.aload_n 1, 1) := by decide +kernel
theorem dL_isPower_243 : decode cL_isPower 243 = .ok (.iconst 1, 1) := by decide +kernel
theorem dL_isPower_244 : decode cL_isPower 244 = .ok (.iaload, 1) := by decide +kernel
theorem dL_isPower_245 : decode cL_isPower 245 = .ok (.iconst 1, 1) := by decide +kernel
theorem dL_isPower_246 : decode cL_isPower 246 = .ok (.isub, 1) := by decide +kernel
theorem dL_isPower_247 : decode cL_isPower 247 = .ok (.if_icmp .ne 7, 3) := by decide +kernel
theorem dL_isPower_250 : decode cL_isPower 250 = .ok (.iconst 1, 1) := by decide +kernel
theorem dL_isPower_251 : decode cL_isPower 251 = .ok (.goto 4, 3) := by decide +kernel
theorem dL_isPower_254 : decode cL_isPower 254 = .ok (.iconst 0, 1) := by decide +kernel
theorem dL_isPower_255 : decode cL_isPower 255 = .ok (.ireturn, 1) := by decide +kernel
theorem dL_isDelegated_0 : decode cL_isDelegated 0 = .ok (.aload_n 2, 1) := by decide +kernel
theorem dL_isDelegated_1 : decode cL_isDelegated 1 = .ok (.iload_n 3, 1) := by decide +kernel
theorem dL_isDelegated_2 : decode cL_isDelegated 2 = .ok (.aload_n 1, 1) := by decide +kernel
theorem dL_isDelegated_3 : decode cL_isDelegated 3 = .ok (.iconst 1, 1) := by decide +kernel
theorem dL_isDelegated_4 : decode cL_isDelegated 4 = .ok (.iaload, 1) := by decide +kernel
theorem dL_isDelegated_5 : decode cL_isDelegated 5 = .ok (.invokestatic 102, 3) := by decide +kernel
theorem dL_isDelegated_8 : decode cL_isDelegated 8 = .ok (.istore 4, 2) := by decide +kernel
theorem dL_isDelegated_10 : decode cL_isDelegated 10 = .ok (.bipush 30, 2) := by decide +kernel
theorem dL_isDelegated_12 : decode cL_isDelegated 12 = .ok (.bipush 8, 2) := by decide +kernel
theorem dL_isDelegated_14 : decode cL_isDelegated 14 = .ok (.iload 4, 2) := by decide +kernel
theorem dL_isDelegated_16 : decode cL_isDelegated 16 = .ok (.imul, 1) := by decide +kernel
theorem dL_isDelegated_17 : decode cL_isDelegated 17 = .ok (.iadd, 1) := by decide +kernel
theorem dL_isDelegated_18 : decode cL_isDelegated 18 = .ok (.istore 5, 2) := by decide +kernel
theorem dL_isDelegated_20 : decode cL_isDelegated 20 = .ok (.bipush 30, 2) := by decide +kernel
theorem dL_isDelegated_22 : decode cL_isDelegated 22 = .ok (.bipush 8, 2) := by decide +kernel
theorem dL_isDelegated_24 : decode cL_isDelegated 24 = .ok (.aload_n 1, 1) := by decide +kernel
theorem dL_isDelegated_25 : decode cL_isDelegated 25 = .ok (.iconst 1, 1) := by decide +kernel
theorem dL_isDelegated_26 : decode cL_isDelegated 26 = .ok (.iaload, 1) := by decide +kernel
theorem dL_isDelegated_27 : decode cL_isDelegated 27 = .ok (.imul, 1) := by decide +kernel
theorem dL_isDelegated_28 : decode cL_isDelegated 28 = .ok (.iadd, 1) := by decide +kernel
theorem dL_isDelegated_29 : decode cL_isDelegated 29 = .ok (.istore 6, 2) := by decide +kernel
theorem dL_isDelegated_31 : decode cL_isDelegated 31 = .ok (.aload_n 2, 1) := by decide +kernel
theorem dL_isDelegated_32 : decode cL_isDelegated 32 = .ok (.iload_n 3, 1) := by decide +kernel
theorem dL_isDelegated_33 : decode cL_isDelegated 33 = .ok (.iconst 1, 1) := by decide +kernel
theorem dL_isDelegated_34 : decode cL_isDelegated 34 = .ok (.iadd, 1) := by decide +kernel
theorem dL_isDelegated_35 : decode cL_isDelegated 35 = .ok (.aload_n 1, 1) := by decide +kernel
theorem dL_isDelegated_36 : decode cL_isDelegated 36 = .ok (.iconst 0, 1) := by decide +kernel
theorem dL_isDelegated_37 : decode cL_isDelegated 37 = .ok (.iaload, 1) := by decide +kernel
theorem dL_isDelegated_38 : decode cL_isDelegated 38 = .ok (.invokestatic 102, 3) := by decide +kernel
theorem dL_isDelegated_41 : decode cL_isDelegated 41 = .ok (.istore 7, 2) := by decide +kernel
theorem dL_isDelegated_43 : decode cL_isDelegated 43 = .ok (.aload_n 2, 1) := by decide +kernel
theorem dL_isDelegated_44 : decode cL_isDelegated 44 = .ok (.iload_n 3, 1) := by decide +kernel
theorem dL_isDelegated_45 : decode cL_isDelegated 45 = .ok (.iconst 2, 1) := by decide +kernel
theorem dL_isDelegated_46 : decode cL_isDelegated 46 = .ok (.iadd, 1) := by decide +kernel
theorem dL_isDelegated_47 : decode cL_isDelegated 47 = .ok (.iconst 5, 1) := by decide +kernel
theorem dL_isDelegated_48 : decode cL_isDelegated 48 = .ok (.invokestatic 102, 3) := by decide +kernel
theorem dL_isDelegated_51 : decode cL_isDelegated 51 = .ok (.ifCond .ne 17, 3) := by decide +kernel
theorem dL_isDelegated_54 : decode cL_isDelegated 54 = .ok (.iconst 1, 1) := by decide +kernel
theorem dL_isDelegated_55 : decode cL_isDelegated 55 = .ok (.aload_n 2, 1) := by decide +kernel
theorem dL_isDelegated_56 : decode cL_isDelegated 56 = .ok (.iload_n 3, 1) := by decide +kernel
theorem dL_isDelegated_57 : decode cL_isDelegated 57 = .ok (.iconst 3, 1) := by decide +kernel
theorem dL_isDelegated_58 : decode cL_isDelegated 58 = .ok (.iadd, 1) := by decide +kernel
theorem dL_isDelegated_59 : decode cL_isDelegated 59 = .ok (.ldc 106, 2) := by decide +kernel
theorem dL_isDelegated_61 : decode cL_isDelegated 61 = .ok (.invokestatic 102, 3) := by decide +kernel
theorem dL_isDelegated_64 : decode cL_isDelegated 64 = .ok (.iadd, 1) := by decide +kernel
theorem dL_isDelegated_65 : decode cL_isDelegated 65 = .ok (.goto 18, 3) := by decide +kernel
theorem dL_isDelegated_68 : decode cL_isDelegated 68 = .ok (.iconst 1, 1) := by decide +kernel
theorem dL_isDelegated_69 : decode cL_isDelegated 69 = .ok (.aload_n 2, 1) := by decide +kernel
theorem dL_isDelegated_70 : decode cL_isDelegated 70 = .ok (.iload_n 3, 1) := by decide +kernel
theorem dL_isDelegated_71 : decode cL_isDelegated 71 = .ok (.iconst 3, 1) := by decide +kernel
theorem dL_isDelegated_72 : decode cL_isDelegated 72 = .ok (.iadd, 1) := by decide +kernel
theorem dL_isDelegated_73 : decode cL_isDelegated 73 = .ok (.aload_n 1, 1) := by decide +kernel
theorem dL_isDelegated_74 : decode cL_isDelegated 74 = .ok (.iload 5, 2) := by decide +kernel
theorem dL_isDelegated_76 : decode cL_isDelegated 76 = .ok (.iconst 3, 1) := by decide +kernel
theorem dL_isDelegated_77 : decode cL_isDelegated 77 = .ok (.iadd, 1) := by decide +kernel
theorem dL_isDelegated_78 : decode cL_isDelegated 78 = .ok (.iaload, 1) := by decide +kernel
theorem dL_isDelegated_79 : decode cL_isDelegated 79 = .ok (.invokestatic 102, 3) := by decide +kernel
theorem dL_isDelegated_82 : decode cL_isDelegated 82 = .ok (.iadd, 1) := by decide +kernel
theorem dL_isDelegated_83 : decode cL_isDelegated 83 = .ok (.istore 8, 2) := by decide +kernel
theorem dL_isDelegated_85 : decode cL_isDelegated 85 = .ok (.aload_n 1, 1) := by decide +kernel
theorem dL_isDelegated_86 : decode cL_isDelegated 86 = .ok (.iload 5, 2) := by decide +kernel
theorem dL_isDelegated_88 : decode cL_isDelegated 88 = .ok (.iconst 4, 1) := by decide +kernel
theorem dL_isDelegated_89 : decode cL_isDelegated 89 = .ok (.iadd, 1) := by decide +kernel
theorem dL_isDelegated_90 : decode cL_isDelegated 90 = .ok (.iaload, 1) := by decide +kernel
theorem dL_isDelegated_91 : decode cL_isDelegated 91 = .ok (.aload_n 2, 1) := by decide +kernel
theorem dL_isDelegated_92 : decode cL_isDelegated 92 = .ok (.iload_n 3, 1) := by decide +kernel
theorem dL_isDelegated_93 : decode cL_isDelegated 93 = .ok (.iconst 4, 1) := by decide +kernel
theorem dL_isDelegated_94 : decode cL_isDelegated 94 = .ok (.iadd, 1) := by decide +kernel
theorem dL_isDelegated_95 : decode cL_isDelegated 95 = .ok (.iconst 5, 1) := by decide +kernel
theorem dL_isDelegated_96 : decode cL_isDelegated 96 = .ok (.invokestatic 102, 3) := by decide +kernel
theorem dL_isDelegated_99 : decode cL_isDelegated 99 = .ok (.iadd, 1) := by decide +kernel
theorem dL_isDelegated_100 : decode cL_isDelegated 100 = .ok (.aload_n 2, 1) := by decide +kernel
theorem dL_isDelegated_101 : decode cL_isDelegated 101 = .ok (.iload_n 3, 1) := by decide +kernel
theorem dL_isDelegated_102 : decode cL_isDelegated 102 = .ok (.iconst 5, 1) := by decide +kernel
theorem dL_isDelegated_103 : decode cL_isDelegated 103 = .ok (.iadd, 1) := by decide +kernel
theorem dL_isDelegated_104 : decode cL_isDelegated 104 = .ok (.bipush 9, 2) := by decide +kernel
theorem dL_isDelegated_106 : decode cL_isDelegated 106 = .ok (.invokestatic 102, 3) := by decide +kernel
theorem dL_isDelegated_109 : decode cL_isDelegated 109 = .ok (.ifCond .ne 7, 3) := by decide +kernel
theorem dL_isDelegated_112 : decode cL_isDelegated 112 = .ok (.iconst 1, 1) := by decide +kernel
theorem dL_isDelegated_113 : decode cL_isDelegated 113 = .ok (.goto 4, 3) := by decide +kernel
theorem dL_isDelegated_116 : decode cL_isDelegated 116 = .ok (.iconst 0, 1) := by decide +kernel
theorem dL_isDelegated_117 : decode cL_isDelegated 117 = .ok (.isub, 1) := by decide +kernel
theorem dL_isDelegated_118 : decode cL_isDelegated 118 = .ok (.istore 9, 2) := by decide +kernel
theorem dL_isDelegated_120 : decode cL_isDelegated 120 = .ok (.iload 9, 2) := by decide +kernel
theorem dL_isDelegated_122 : decode cL_isDelegated 122 = .ok (.aload_n 1, 1) := by decide +kernel
theorem dL_isDelegated_123 : decode cL_isDelegated 123 = .ok (.iload 5, 2) := by decide +kernel
theorem dL_isDelegated_125 : decode cL_isDelegated 125 = .ok (.iconst 5, 1) := by decide +kernel
theorem dL_isDelegated_126 : decode cL_isDelegated 126 = .ok (.iadd, 1) := by decide +kernel
theorem dL_isDelegated_127 : decode cL_isDelegated 127 = .ok (.iaload, 1) := by decide +kernel
theorem dL_isDelegated_128 : decode cL_isDelegated 128 = .ok (.aload_n 2, 1) := by decide +kernel
theorem dL_isDelegated_129 : decode cL_isDelegated 129 = .ok (.iload_n 3, 1) := by decide +kernel
theorem dL_isDelegated_130 : decode cL_isDelegated 130 = .ok (.bipush 6, 2) := by decide +kernel
theorem dL_isDelegated_132 : decode cL_isDelegated 132 = .ok (.iadd, 1) := by decide +kernel
theorem dL_isDelegated_133 : decode cL_isDelegated 133 = .ok (.iconst 5, 1) := by decide +kernel
theorem dL_isDelegated_134 : decode cL_isDelegated 134 = .ok (.invokestatic 102, 3) := by decide +kernel
theorem dL_isDelegated_137 : decode cL_isDelegated 137 = .ok (.isub, 1) := by decide +kernel
theorem dL_isDelegated_138 : decode cL_isDelegated 138 = .ok (.invokestatic 107, 3) := by decide +kernel
theorem dL_isDelegated_141 : decode cL_isDelegated 141 = .ok (.istore 10, 2) := by decide +kernel
theorem dL_isDelegated_143 : decode cL_isDelegated 143 = .ok (.iload 9, 2) := by decide +kernel
theorem dL_isDelegated_145 : decode cL_isDelegated 145 = .ok (.ifCond .ge 28, 3) := by decide +kernel
theorem dL_isDelegated_148 : decode cL_isDelegated 148 = .ok (.aload_n 0, 1) := by decide +kernel
theorem dL_isDelegated_149 : decode cL_isDelegated 149 = .ok (.iload 4, 2) := by decide +kernel
theorem dL_isDelegated_151 : decode cL_isDelegated 151 = .ok (.iload 7, 2) := by decide +kernel
theorem dL_isDelegated_153 : decode cL_isDelegated 153 = .ok (.iload 8, 2) := by decide +kernel
theorem dL_isDelegated_155 : decode cL_isDelegated 155 = .ok (.iload 9, 2) := by decide +kernel
theorem dL_isDelegated_157 : decode cL_isDelegated 157 = .ok (.iload 10, 2) := by decide +kernel
theorem dL_isDelegated_159 : decode cL_isDelegated 159 = .ok (.invokestatic 118, 3) := by decide +kernel
theorem dL_isDelegated_162 : decode cL_isDelegated 162 = .ok (.ldc 26, 2) := by decide +kernel
theorem dL_isDelegated_164 : decode cL_isDelegated 164 = .ok (.if_icmp .ne 7, 3) := by decide +kernel
theorem dL_isDelegated_167 : decode cL_isDelegated 167 = .ok (.iconst 1, 1) := by decide +kernel
theorem dL_isDelegated_168 : decode cL_isDelegated 168 = .ok (.goto 4, 3) := by decide +kernel
theorem dL_isDelegated_171 : decode cL_isDelegated 171 = .ok (.iconst 0, 1) := by decide +kernel
theorem dL_isDelegated_172 : decode cL_isDelegated 172 = .ok (.ireturn, 1) := by decide +kernel
theorem dL_isDelegated_173 : decode cL_isDelegated 173 = .ok (.iload 7, 2) := by decide +kernel
theorem dL_isDelegated_175 : decode cL_isDelegated 175 = .ok (.aload_n 1, 1) := by decide +kernel
theorem dL_isDelegated_176 : decode cL_isDelegated 176 = .ok (.iload 5, 2) := by decide +kernel
theorem dL_isDelegated_178 : decode cL_isDelegated 178 = .ok (.iaload, 1) := by decide +kernel
theorem dL_isDelegated_179 : decode cL_isDelegated 179 = .ok (.if_icmp .eq 36, 3) := by decide +kernel
theorem dL_isDelegated_182 : decode cL_isDelegated 182 = .ok (.iload 8, 2) := by decide +kernel
theorem dL_isDelegated_184 : decode cL_isDelegated 184 = .ok (.aload_n 1, 1) := by decide +kernel
theorem dL_isDelegated_185 : decode cL_isDelegated 185 = .ok (.iload 5, 2) := by decide +kernel
theorem dL_isDelegated_187 : decode cL_isDelegated 187 = .ok (.iconst 3, 1) := by decide +kernel
theorem dL_isDelegated_188 : decode cL_isDelegated 188 = .ok (.iadd, 1) := by decide +kernel
theorem dL_isDelegated_189 : decode cL_isDelegated 189 = .ok (.iaload, 1) := by decide +kernel
theorem dL_isDelegated_190 : decode cL_isDelegated 190 = .ok (.if_icmp .gt 25, 3) := by decide +kernel
theorem dL_isDelegated_193 : decode cL_isDelegated 193 = .ok (.iload 9, 2) := by decide +kernel
theorem dL_isDelegated_195 : decode cL_isDelegated 195 = .ok (.aload_n 1, 1) := by decide +kernel
theorem dL_isDelegated_196 : decode cL_isDelegated 196 = .ok (.iload 5, 2) := by decide +kernel
theorem dL_isDelegated_198 : decode cL_isDelegated 198 = .ok (.iconst 4, 1) := by decide +kernel
theorem dL_isDelegated_199 : decode cL_isDelegated 199 = .ok (.iadd, 1) := by decide +kernel
theorem dL_isDelegated_200 : decode cL_isDelegated 200 = .ok (.iaload, 1) := by decide +kernel
theorem dL_isDelegated_201 : decode cL_isDelegated 201 = .ok (.if_icmp .lt 14, 3) := by decide +kernel
theorem dL_isDelegated_204 : decode cL_isDelegated 204 = .ok (.iload 10, 2) := by decide +kernel
theorem dL_isDelegated_206 : decode cL_isDelegated 206 = .ok (.aload_n 1, 1) := by decide +kernel
theorem dL_isDelegated_207 : decode cL_isDelegated 207 = .ok (.iload 5, 2) := by decide +kernel
theorem dL_isDelegated_209 : decode cL_isDelegated 209 = .ok (.iconst 5, 1) := by decide +kernel
theorem dL_isDelegated_210 : decode cL_isDelegated 210 = .ok (.iadd, 1) := by decide +kernel
theorem dL_isDelegated_211 : decode cL_isDelegated 211 = .ok (.iaload, 1) := by decide +kernel
theorem dL_isDelegated_212 : decode cL_isDelegated 212 = .ok (.if_icmp .le 28, 3) := by decide +kernel
theorem dL_isDelegated_215 : decode cL_isDelegated 215 = .ok (.aload_n 0, 1) := by decide +kernel
theorem dL_isDelegated_216 : decode cL_isDelegated 216 = .ok (.iload 4, 2) := by decide +kernel
theorem dL_isDelegated_218 : decode cL_isDelegated 218 = .ok (.iload 7, 2) := by decide +kernel
theorem dL_isDelegated_220 : decode cL_isDelegated 220 = .ok (.iload 8, 2) := by decide +kernel
theorem dL_isDelegated_222 : decode cL_isDelegated 222 = .ok (.iload 9, 2) := by decide +kernel
theorem dL_isDelegated_224 : decode cL_isDelegated 224 = .ok (.iload 10, 2) := by decide +kernel
theorem dL_isDelegated_226 : decode cL_isDelegated 226 = .ok (.invokestatic 118, 3) := by decide +kernel
theorem dL_isDelegated_229 : decode cL_isDelegated 229 = .ok (.ldc 35, 2) := by decide +kernel
theorem dL_isDelegated_231 : decode cL_isDelegated 231 = .ok (.if_icmp .ne 7, 3) := by decide +kernel
theorem dL_isDelegated_234 : decode cL_isDelegated 234 = .ok (.iconst 1, 1) := by decide +kernel
theorem dL_isDelegated_235 : decode cL_isDelegated 235 = .ok (.goto 4, 3) := by decide +kernel
theorem dL_isDelegated_238 : decode cL_isDelegated 238 = .ok (.iconst 0, 1) := by decide +kernel
theorem dL_isDelegated_239 : decode cL_isDelegated 239 = .ok (.ireturn, 1) := by decide +kernel
theorem dL_isDelegated_240 : decode cL_isDelegated 240 = .ok (.aload_n 1, 1) := by decide +kernel
theorem dL_isDelegated_241 : decode cL_isDelegated 241 = .ok (.iload 5, 2) := by decide +kernel
theorem dL_isDelegated_243 : decode cL_isDelegated 243 = .ok (.bipush 7, 2) := by decide +kernel
theorem dL_isDelegated_245 : decode cL_isDelegated 245 = .ok (.iadd, 1) := by decide +kernel
theorem dL_isDelegated_246 : decode cL_isDelegated 246 = .ok (.iaload, 1) := by decide +kernel
theorem dL_isDelegated_247 : decode cL_isDelegated 247 = .ok (.iconst 1, 1) := by decide +kernel
theorem dL_isDelegated_248 : decode cL_isDelegated 248 = .ok (.if_icmp .eq 11, 3) := by decide +kernel
theorem dL_isDelegated_251 : decode cL_isDelegated 251 = .ok (.aload_n 1, 1) := by decide +kernel
theorem dL_isDelegated_252 : decode cL_isDelegated 252 = .ok (.iconst 1, 1) := by decide +kernel
theorem dL_isDelegated_253 : decode cL_isDelegated 253 = .ok (.iaload, 1) := by decide +kernel
theorem dL_isDelegated_254 : decode cL_isDelegated 254 = .ok (.bipush 20, 2) := by decide +kernel
theorem dL_isDelegated_256 : decode cL_isDelegated 256 = .ok (.if_icmp .ne 28, 3) := by decide +kernel
theorem dL_isDelegated_259 : decode cL_isDelegated 259 = .ok (.aload_n 0, 1) := by decide +kernel
theorem dL_isDelegated_260 : decode cL_isDelegated 260 = .ok (.iload 4, 2) := by decide +kernel
theorem dL_isDelegated_262 : decode cL_isDelegated 262 = .ok (.iload 7, 2) := by decide +kernel
theorem dL_isDelegated_264 : decode cL_isDelegated 264 = .ok (.iload 8, 2) := by decide +kernel
theorem dL_isDelegated_266 : decode cL_isDelegated 266 = .ok (.iload 9, 2) := by decide +kernel
theorem dL_isDelegated_268 : decode cL_isDelegated 268 = .ok (.iload 10, 2) := by decide +kernel
theorem dL_isDelegated_270 : decode cL_isDelegated 270 = .ok (.invokestatic 118, 3) := by decide +kernel
theorem dL_isDelegated_273 : decode cL_isDelegated 273 = .ok (.ldc 42, 2) := by decide +kernel
theorem dL_isDelegated_275 : decode cL_isDelegated 275 = .ok (.if_icmp .ne 7, 3) := by decide +kernel
theorem dL_isDelegated_278 : decode cL_isDelegated 278 = .ok (.iconst 1, 1) := by decide +kernel
theorem dL_isDelegated_279 : decode cL_isDelegated 279 = .ok (.goto 4, 3) := by decide +kernel
theorem dL_isDelegated_282 : decode cL_isDelegated 282 = .ok (.iconst 0, 1) := by decide +kernel
theorem dL_isDelegated_283 : decode cL_isDelegated 283 = .ok (.ireturn, 1) := by decide +kernel
theorem dL_isDelegated_284 : decode cL_isDelegated 284 = .ok (.aload_n 1, 1) := by decide +kernel
theorem dL_isDelegated_285 : decode cL_isDelegated 285 = .ok (.iload 6, 2) := by decide +kernel
theorem dL_isDelegated_287 : decode cL_isDelegated 287 = .ok (.iload 7, 2) := by decide +kernel
theorem dL_isDelegated_289 : decode cL_isDelegated 289 = .ok (.iastore, 1) := by decide +kernel
theorem dL_isDelegated_290 : decode cL_isDelegated 290 = .ok (.aload_n 1, 1) := by decide +kernel
theorem dL_isDelegated_291 : decode cL_isDelegated 291 = .ok (.iload 6, 2) := by decide +kernel
theorem dL_isDelegated_293 : decode cL_isDelegated 293 = .ok (.iconst 1, 1) := by decide +kernel
theorem dL_isDelegated_294 : decode cL_isDelegated 294 = .ok (.iadd, 1) := by decide +kernel
theorem dL_isDelegated_295 : decode cL_isDelegated 295 = .ok (.aload_n 1, 1) := by decide +kernel
theorem dL_isDelegated_296 : decode cL_isDelegated 296 = .ok (.iload 5, 2) := by decide +kernel
theorem dL_isDelegated_298 : decode cL_isDelegated 298 = .ok (.iconst 1, 1) := by decide +kernel
theorem dL_isDelegated_299 : decode cL_isDelegated 299 = .ok (.iadd, 1) := by decide +kernel
theorem dL_isDelegated_300 : decode cL_isDelegated 300 = .ok (.iaload, 1) := by decide +kernel
theorem dL_isDelegated_301 : decode cL_isDelegated 301 = .ok (.iastore, 1) := by decide +kernel
theorem dL_isDelegated_302 : decode cL_isDelegated 302 = .ok (.aload_n 1, 1) := by decide +kernel
theorem dL_isDelegated_303 : decode cL_isDelegated 303 = .ok (.iload 6, 2) := by decide +kernel
theorem dL_isDelegated_305 : decode cL_isDelegated 305 = .ok (.iconst 2, 1) := by decide +kernel
theorem dL_isDelegated_306 : decode cL_isDelegated 306 = .ok (.iadd, 1) := by decide +kernel
theorem dL_isDelegated_307 : decode cL_isDelegated 307 = .ok (.aload_n 1, 1) := by decide +kernel
theorem dL_isDelegated_308 : decode cL_isDelegated 308 = .ok (.iload 5, 2) := by decide +kernel
theorem dL_isDelegated_310 : decode cL_isDelegated 310 = .ok (.iconst 2, 1) := by decide +kernel
theorem dL_isDelegated_311 : decode cL_isDelegated 311 = .ok (.iadd, 1) := by decide +kernel
theorem dL_isDelegated_312 : decode cL_isDelegated 312 = .ok (.iaload, 1) := by decide +kernel
theorem dL_isDelegated_313 : decode cL_isDelegated 313 = .ok (.iastore, 1) := by decide +kernel
theorem dL_isDelegated_314 : decode cL_isDelegated 314 = .ok (.aload_n 1, 1) := by decide +kernel
theorem dL_isDelegated_315 : decode cL_isDelegated 315 = .ok (.iload 6, 2) := by decide +kernel
theorem dL_isDelegated_317 : decode cL_isDelegated 317 = .ok (.iconst 3, 1) := by decide +kernel
theorem dL_isDelegated_318 : decode cL_isDelegated 318 = .ok (.iadd, 1) := by decide +kernel
theorem dL_isDelegated_319 : decode cL_isDelegated 319 = .ok (.iload 8, 2) := by decide +kernel
theorem dL_isDelegated_321 : decode cL_isDelegated 321 = .ok (.iastore, 1) := by decide +kernel
theorem dL_isDelegated_322 : decode cL_isDelegated 322 = .ok (.aload_n 1, 1) := by decide +kernel
theorem dL_isDelegated_323 : decode cL_isDelegated 323 = .ok (.iload 6, 2) := by decide +kernel
theorem dL_isDelegated_325 : decode cL_isDelegated 325 = .ok (.iconst 4, 1) := by decide +kernel
theorem dL_isDelegated_326 : decode cL_isDelegated 326 = .ok (.iadd, 1) := by decide +kernel
theorem dL_isDelegated_327 : decode cL_isDelegated 327 = .ok (.iload 9, 2) := by decide +kernel
theorem dL_isDelegated_329 : decode cL_isDelegated 329 = .ok (.iastore, 1) := by decide +kernel
theorem dL_isDelegated_330 : decode cL_isDelegated 330 = .ok (.aload_n 1, 1) := by decide +kernel
theorem dL_isDelegated_331 : decode cL_isDelegated 331 = .ok (.iload 6, 2) := by decide +kernel
theorem dL_isDelegated_333 : decode cL_isDelegated 333 = .ok (.iconst 5, 1) := by decide +kernel
theorem dL_isDelegated_334 : decode cL_isDelegated 334 = .ok (.iadd, 1) := by decide +kernel
theorem dL_isDelegated_335 : decode cL_isDelegated 335 = .ok (.iload 10, 2) := by decide +kernel
theorem dL_isDelegated_337 : decode cL_isDelegated 337 = .ok (.iastore, 1) := by decide +kernel
theorem dL_isDelegated_338 : decode cL_isDelegated 338 = .ok (.aload_n 1, 1) := by decide +kernel
theorem dL_isDelegated_339 : decode cL_isDelegated 339 = .ok (.iload 6, 2) := by decide +kernel
theorem dL_isDelegated_341 : decode cL_isDelegated 341 = .ok (.bipush 6, 2) := by decide +kernel
theorem dL_isDelegated_343 : decode cL_isDelegated 343 = .ok (.iadd, 1) := by decide +kernel
theorem dL_isDelegated_344 : decode cL_isDelegated 344 = .ok (.iload 4, 2) := by decide +kernel
theorem dL_isDelegated_346 : decode cL_isDelegated 346 = .ok (.iastore, 1) := by decide +kernel
theorem dL_isDelegated_347 : decode cL_isDelegated 347 = .ok (.aload_n 1, 1) := by decide +kernel
theorem dL_isDelegated_348 : decode cL_isDelegated 348 = .ok (.iconst 1, 1) := by decide +kernel
theorem dL_isDelegated_349 : decode cL_isDelegated 349 = .ok (.dup2, 1) := by decide +kernel
theorem dL_isDelegated_350 : decode cL_isDelegated 350 = .ok (.iaload, 1) := by decide +kernel
theorem dL_isDelegated_351 : decode cL_isDelegated 351 = .ok (.iconst 1, 1) := by decide +kernel
theorem dL_isDelegated_352 : decode cL_isDelegated 352 = .ok (.iadd, 1) := by decide +kernel
theorem dL_isDelegated_353 : decode cL_isDelegated 353 = .ok (.iastore, 1) := by decide +kernel
theorem dL_isDelegated_354 : decode cL_isDelegated 354 = .ok (.aload_n 0, 1) := by decide +kernel
theorem dL_isDelegated_355 : decode cL_isDelegated 355 = .ok (.iload 4, 2) := by decide +kernel
theorem dL_isDelegated_357 : decode cL_isDelegated 357 = .ok (.iload 7, 2) := by decide +kernel
theorem dL_isDelegated_359 : decode cL_isDelegated 359 = .ok (.iload 8, 2) := by decide +kernel
theorem dL_isDelegated_361 : decode cL_isDelegated 361 = .ok (.iload 9, 2) := by decide +kernel
theorem dL_isDelegated_363 : decode cL_isDelegated 363 = .ok (.iload 10, 2) := by decide +kernel
theorem dL_isDelegated_365 : decode cL_isDelegated 365 = .ok (.invokestatic 118, 3) := by decide +kernel
theorem dL_isDelegated_368 : decode cL_isDelegated 368 = .ok (.aload_n 1, 1) := by decide +kernel
theorem dL_isDelegated_369 : decode cL_isDelegated 369 = .ok (.iconst 1, 1) := by decide +kernel
theorem dL_isDelegated_370 : decode cL_isDelegated 370 = .ok (.iaload, 1) := by decide +kernel
theorem dL_isDelegated_371 : decode cL_isDelegated 371 = .ok (.iconst 1, 1) := by decide +kernel
theorem dL_isDelegated_372 : decode cL_isDelegated 372 = .ok (.isub, 1) := by decide +kernel
theorem dL_isDelegated_373 : decode cL_isDelegated 373 = .ok (.if_icmp .ne 7, 3) := by decide +kernel
theorem dL_isDelegated_376 : decode cL_isDelegated 376 = .ok (.iconst 1, 1) := by decide +kernel
theorem dL_isDelegated_377 : decode cL_isDelegated 377 = .ok (.goto 4, 3) := by decide +kernel
theorem dL_isDelegated_380 : decode cL_isDelegated 380 = .ok (.iconst 0, 1) := by decide +kernel
theorem dL_isDelegated_381 : decode cL_isDelegated 381 = .ok (.ireturn, 1) := by decide +kernel
theorem dL_begun_0 : decode cL_begun 0 = .ok (.new 10, 3) := by decide +kernel
theorem dL_begun_3 : decode cL_begun 3 = .ok (.dup, 1) := by decide +kernel
theorem dL_begun_4 : decode cL_begun 4 = .ok (.invokespecial 121, 3) := by decide +kernel
theorem dL_begun_7 : decode cL_begun 7 = .ok (.astore_n 2, 1) := by decide +kernel
theorem dL_begun_8 : decode cL_begun 8 = .ok (.aload_n 1, 1) := by decide +kernel
theorem dL_begun_9 : decode cL_begun 9 = .ok (.iconst 4, 1) := by decide +kernel
theorem dL_begun_10 : decode cL_begun 10 = .ok (.bipush 30, 2) := by decide +kernel
theorem dL_begun_12 : decode cL_begun 12 = .ok (.iastore, 1) := by decide +kernel
theorem dL_begun_13 : decode cL_begun 13 = .ok (.iconst 1, 1) := by decide +kernel
theorem dL_begun_14 : decode cL_begun 14 = .ok (.istore_n 3, 1) := by decide +kernel
theorem dL_begun_15 : decode cL_begun 15 = .ok (.iconst 2, 1) := by decide +kernel
theorem dL_begun_16 : decode cL_begun 16 = .ok (.aload_n 0, 1) := by decide +kernel
theorem dL_begun_17 : decode cL_begun 17 = .ok (.iconst 0, 1) := by decide +kernel
theorem dL_begun_18 : decode cL_begun 18 = .ok (.iconst 5, 1) := by decide +kernel
theorem dL_begun_19 : decode cL_begun 19 = .ok (.invokestatic 102, 3) := by decide +kernel
theorem dL_begun_22 : decode cL_begun 22 = .ok (.iadd, 1) := by decide +kernel
theorem dL_begun_23 : decode cL_begun 23 = .ok (.istore 4, 2) := by decide +kernel
theorem dL_begun_25 : decode cL_begun 25 = .ok (.iload 4, 2) := by decide +kernel
theorem dL_begun_27 : decode cL_begun 27 = .ok (.ifCond .le 47, 3) := by decide +kernel
theorem dL_begun_30 : decode cL_begun 30 = .ok (.aload_n 1, 1) := by decide +kernel
theorem dL_begun_31 : decode cL_begun 31 = .ok (.bipush 11, 2) := by decide +kernel
theorem dL_begun_33 : decode cL_begun 33 = .ok (.iconst 2, 1) := by decide +kernel
theorem dL_begun_34 : decode cL_begun 34 = .ok (.aload_n 1, 1) := by decide +kernel
theorem dL_begun_35 : decode cL_begun 35 = .ok (.iconst 0, 1) := by decide +kernel
theorem dL_begun_36 : decode cL_begun 36 = .ok (.iaload, 1) := by decide +kernel
theorem dL_begun_37 : decode cL_begun 37 = .ok (.imul, 1) := by decide +kernel
theorem dL_begun_38 : decode cL_begun 38 = .ok (.iadd, 1) := by decide +kernel
theorem dL_begun_39 : decode cL_begun 39 = .ok (.iconst (-1), 1) := by decide +kernel
theorem dL_begun_40 : decode cL_begun 40 = .ok (.iastore, 1) := by decide +kernel
theorem dL_begun_41 : decode cL_begun 41 = .ok (.aload_n 1, 1) := by decide +kernel
theorem dL_begun_42 : decode cL_begun 42 = .ok (.iconst 0, 1) := by decide +kernel
theorem dL_begun_43 : decode cL_begun 43 = .ok (.dup2, 1) := by decide +kernel
theorem dL_begun_44 : decode cL_begun 44 = .ok (.iaload, 1) := by decide +kernel
theorem dL_begun_45 : decode cL_begun 45 = .ok (.iconst 1, 1) := by decide +kernel
theorem dL_begun_46 : decode cL_begun 46 = .ok (.iadd, 1) := by decide +kernel
theorem dL_begun_47 : decode cL_begun 47 = .ok (.iastore, 1) := by decide +kernel
theorem dL_begun_48 : decode cL_begun 48 = .ok (.iload_n 3, 1) := by decide +kernel
theorem dL_begun_49 : decode cL_begun 49 = .ok (.aload_n 2, 1) := by decide +kernel
theorem dL_begun_50 : decode cL_begun 50 = .ok (.invokestatic 122, 3) := by decide +kernel
theorem dL_begun_53 : decode cL_begun 53 = .ok (.aload_n 1, 1) := by decide +kernel
theorem dL_begun_54 : decode cL_begun 54 = .ok (.iconst 0, 1) := by decide +kernel
theorem dL_begun_55 : decode cL_begun 55 = .ok (.iaload, 1) := by decide +kernel
theorem dL_begun_56 : decode cL_begun 56 = .ok (.iconst 1, 1) := by decide +kernel
theorem dL_begun_57 : decode cL_begun 57 = .ok (.isub, 1) := by decide +kernel
theorem dL_begun_58 : decode cL_begun 58 = .ok (.if_icmp .ne 7, 3) := by decide +kernel
theorem dL_begun_61 : decode cL_begun 61 = .ok (.iconst 1, 1) := by decide +kernel
theorem dL_begun_62 : decode cL_begun 62 = .ok (.goto 4, 3) := by decide +kernel
theorem dL_begun_65 : decode cL_begun 65 = .ok (.iconst 0, 1) := by decide +kernel
theorem dL_begun_66 : decode cL_begun 66 = .ok (.iand, 1) := by decide +kernel
theorem dL_begun_67 : decode cL_begun 67 = .ok (.istore_n 3, 1) := by decide +kernel
theorem dL_begun_68 : decode cL_begun 68 = .ok (.iinc 4 (-1), 3) := by decide +kernel
theorem dL_begun_71 : decode cL_begun 71 = .ok (.goto (-46), 3) := by decide +kernel
theorem dL_begun_74 : decode cL_begun 74 = .ok (.iconst 1, 1) := by decide +kernel
theorem dL_begun_75 : decode cL_begun 75 = .ok (.aload_n 0, 1) := by decide +kernel
theorem dL_begun_76 : decode cL_begun 76 = .ok (.iconst 1, 1) := by decide +kernel
theorem dL_begun_77 : decode cL_begun 77 = .ok (.bipush 6, 2) := by decide +kernel
theorem dL_begun_79 : decode cL_begun 79 = .ok (.invokestatic 102, 3) := by decide +kernel
theorem dL_begun_82 : decode cL_begun 82 = .ok (.iadd, 1) := by decide +kernel
theorem dL_begun_83 : decode cL_begun 83 = .ok (.istore 4, 2) := by decide +kernel
theorem dL_begun_85 : decode cL_begun 85 = .ok (.iload 4, 2) := by decide +kernel
theorem dL_begun_87 : decode cL_begun 87 = .ok (.ifCond .le 26, 3) := by decide +kernel
theorem dL_begun_90 : decode cL_begun 90 = .ok (.iload_n 3, 1) := by decide +kernel
theorem dL_begun_91 : decode cL_begun 91 = .ok (.aload_n 2, 1) := by decide +kernel
theorem dL_begun_92 : decode cL_begun 92 = .ok (.aload_n 1, 1) := by decide +kernel
theorem dL_begun_93 : decode cL_begun 93 = .ok (.aload_n 0, 1) := by decide +kernel
theorem dL_begun_94 : decode cL_begun 94 = .ok (.bipush 10, 2) := by decide +kernel
theorem dL_begun_96 : decode cL_begun 96 = .ok (.bipush 8, 2) := by decide +kernel
theorem dL_begun_98 : decode cL_begun 98 = .ok (.iload 4, 2) := by decide +kernel
theorem dL_begun_100 : decode cL_begun 100 = .ok (.imul, 1) := by decide +kernel
theorem dL_begun_101 : decode cL_begun 101 = .ok (.iadd, 1) := by decide +kernel
theorem dL_begun_102 : decode cL_begun 102 = .ok (.invokestatic 125, 3) := by decide +kernel
theorem dL_begun_105 : decode cL_begun 105 = .ok (.iand, 1) := by decide +kernel
theorem dL_begun_106 : decode cL_begun 106 = .ok (.istore_n 3, 1) := by decide +kernel
theorem dL_begun_107 : decode cL_begun 107 = .ok (.iinc 4 (-1), 3) := by decide +kernel
theorem dL_begun_110 : decode cL_begun 110 = .ok (.goto (-25), 3) := by decide +kernel
theorem dL_begun_113 : decode cL_begun 113 = .ok (.aload_n 0, 1) := by decide +kernel
theorem dL_begun_114 : decode cL_begun 114 = .ok (.iconst 2, 1) := by decide +kernel
theorem dL_begun_115 : decode cL_begun 115 = .ok (.iconst 5, 1) := by decide +kernel
theorem dL_begun_116 : decode cL_begun 116 = .ok (.invokestatic 102, 3) := by decide +kernel
theorem dL_begun_119 : decode cL_begun 119 = .ok (.istore 4, 2) := by decide +kernel
theorem dL_begun_121 : decode cL_begun 121 = .ok (.iload 4, 2) := by decide +kernel
theorem dL_begun_123 : decode cL_begun 123 = .ok (.ifCond .le 26, 3) := by decide +kernel
theorem dL_begun_126 : decode cL_begun 126 = .ok (.iload_n 3, 1) := by decide +kernel
theorem dL_begun_127 : decode cL_begun 127 = .ok (.aload_n 2, 1) := by decide +kernel
theorem dL_begun_128 : decode cL_begun 128 = .ok (.aload_n 1, 1) := by decide +kernel
theorem dL_begun_129 : decode cL_begun 129 = .ok (.aload_n 0, 1) := by decide +kernel
theorem dL_begun_130 : decode cL_begun 130 = .ok (.bipush 70, 2) := by decide +kernel
theorem dL_begun_132 : decode cL_begun 132 = .ok (.bipush 7, 2) := by decide +kernel
theorem dL_begun_134 : decode cL_begun 134 = .ok (.iload 4, 2) := by decide +kernel
theorem dL_begun_136 : decode cL_begun 136 = .ok (.imul, 1) := by decide +kernel
theorem dL_begun_137 : decode cL_begun 137 = .ok (.iadd, 1) := by decide +kernel
theorem dL_begun_138 : decode cL_begun 138 = .ok (.invokestatic 129, 3) := by decide +kernel
theorem dL_begun_141 : decode cL_begun 141 = .ok (.iand, 1) := by decide +kernel
theorem dL_begun_142 : decode cL_begun 142 = .ok (.istore_n 3, 1) := by decide +kernel
theorem dL_begun_143 : decode cL_begun 143 = .ok (.iinc 4 (-1), 3) := by decide +kernel
theorem dL_begun_146 : decode cL_begun 146 = .ok (.goto (-25), 3) := by decide +kernel
theorem dL_begun_149 : decode cL_begun 149 = .ok (.iload_n 3, 1) := by decide +kernel
theorem dL_begun_150 : decode cL_begun 150 = .ok (.ifCond .eq 7, 3) := by decide +kernel
theorem dL_begun_153 : decode cL_begun 153 = .ok (.aload_n 2, 1) := by decide +kernel
theorem dL_begun_154 : decode cL_begun 154 = .ok (.goto 4, 3) := by decide +kernel
theorem dL_begun_157 : decode cL_begun 157 = .ok (.aconst_null, 1) := by decide +kernel
theorem dL_begun_158 : decode cL_begun 158 = .ok (.areturn, 1) := by decide +kernel
theorem dL_acts_0 : decode cL_acts 0 = .ok (.iload_n 1, 1) := by decide +kernel
theorem dL_acts_1 : decode cL_acts 1 = .ok (.iload_n 2, 1) := by decide +kernel
theorem dL_acts_2 : decode cL_acts 2 = .ok (.if_icmp .eq 27, 3) := by decide +kernel
theorem dL_acts_5 : decode cL_acts 5 = .ok (.aload_n 0, 1) := by decide +kernel
theorem dL_acts_6 : decode cL_acts 6 = .ok (.bipush 10, 2) := by decide +kernel
theorem dL_acts_8 : decode cL_acts 8 = .ok (.iconst 2, 1) := by decide +kernel
theorem dL_acts_9 : decode cL_acts 9 = .ok (.iload_n 2, 1) := by decide +kernel
theorem dL_acts_10 : decode cL_acts 10 = .ok (.imul, 1) := by decide +kernel
theorem dL_acts_11 : decode cL_acts 11 = .ok (.iadd, 1) := by decide +kernel
theorem dL_acts_12 : decode cL_acts 12 = .ok (.iaload, 1) := by decide +kernel
theorem dL_acts_13 : decode cL_acts 13 = .ok (.iconst 1, 1) := by decide +kernel
theorem dL_acts_14 : decode cL_acts 14 = .ok (.if_icmp .ne 19, 3) := by decide +kernel
theorem dL_acts_17 : decode cL_acts 17 = .ok (.aload_n 0, 1) := by decide +kernel
theorem dL_acts_18 : decode cL_acts 18 = .ok (.bipush 11, 2) := by decide +kernel
theorem dL_acts_20 : decode cL_acts 20 = .ok (.iconst 2, 1) := by decide +kernel
theorem dL_acts_21 : decode cL_acts 21 = .ok (.iload_n 2, 1) := by decide +kernel
theorem dL_acts_22 : decode cL_acts 22 = .ok (.imul, 1) := by decide +kernel
theorem dL_acts_23 : decode cL_acts 23 = .ok (.iadd, 1) := by decide +kernel
theorem dL_acts_24 : decode cL_acts 24 = .ok (.iaload, 1) := by decide +kernel
theorem dL_acts_25 : decode cL_acts 25 = .ok (.iload_n 1, 1) := by decide +kernel
theorem dL_acts_26 : decode cL_acts 26 = .ok (.if_icmp .ne 7, 3) := by decide +kernel
theorem dL_acts_29 : decode cL_acts 29 = .ok (.iconst 1, 1) := by decide +kernel
theorem dL_acts_30 : decode cL_acts 30 = .ok (.goto 4, 3) := by decide +kernel
theorem dL_acts_33 : decode cL_acts 33 = .ok (.iconst 0, 1) := by decide +kernel
theorem dL_acts_34 : decode cL_acts 34 = .ok (.ireturn, 1) := by decide +kernel
theorem dL_faulted_0 : decode cL_faulted 0 = .ok (.iconst 0, 1) := by decide +kernel
theorem dL_faulted_1 : decode cL_faulted 1 = .ok (.istore_n 3, 1) := by decide +kernel
theorem dL_faulted_2 : decode cL_faulted 2 = .ok (.iconst 0, 1) := by decide +kernel
theorem dL_faulted_3 : decode cL_faulted 3 = .ok (.istore 4, 2) := by decide +kernel
theorem dL_faulted_5 : decode cL_faulted 5 = .ok (.iload_n 1, 1) := by decide +kernel
theorem dL_faulted_6 : decode cL_faulted 6 = .ok (.istore 5, 2) := by decide +kernel
theorem dL_faulted_8 : decode cL_faulted 8 = .ok (.iload 5, 2) := by decide +kernel
theorem dL_faulted_10 : decode cL_faulted 10 = .ok (.ifCond .lt 109, 3) := by decide +kernel
theorem dL_faulted_13 : decode cL_faulted 13 = .ok (.bipush 30, 2) := by decide +kernel
theorem dL_faulted_15 : decode cL_faulted 15 = .ok (.bipush 8, 2) := by decide +kernel
theorem dL_faulted_17 : decode cL_faulted 17 = .ok (.iload 5, 2) := by decide +kernel
theorem dL_faulted_19 : decode cL_faulted 19 = .ok (.imul, 1) := by decide +kernel
theorem dL_faulted_20 : decode cL_faulted 20 = .ok (.iadd, 1) := by decide +kernel
theorem dL_faulted_21 : decode cL_faulted 21 = .ok (.istore 6, 2) := by decide +kernel
theorem dL_faulted_23 : decode cL_faulted 23 = .ok (.aload_n 0, 1) := by decide +kernel
theorem dL_faulted_24 : decode cL_faulted 24 = .ok (.iconst 3, 1) := by decide +kernel
theorem dL_faulted_25 : decode cL_faulted 25 = .ok (.iaload, 1) := by decide +kernel
theorem dL_faulted_26 : decode cL_faulted 26 = .ok (.aload_n 0, 1) := by decide +kernel
theorem dL_faulted_27 : decode cL_faulted 27 = .ok (.iload 6, 2) := by decide +kernel
theorem dL_faulted_29 : decode cL_faulted 29 = .ok (.iconst 4, 1) := by decide +kernel
theorem dL_faulted_30 : decode cL_faulted 30 = .ok (.iadd, 1) := by decide +kernel
theorem dL_faulted_31 : decode cL_faulted 31 = .ok (.iaload, 1) := by decide +kernel
theorem dL_faulted_32 : decode cL_faulted 32 = .ok (.if_icmp .lt 15, 3) := by decide +kernel
theorem dL_faulted_35 : decode cL_faulted 35 = .ok (.aload_n 0, 1) := by decide +kernel
theorem dL_faulted_36 : decode cL_faulted 36 = .ok (.iconst 3, 1) := by decide +kernel
theorem dL_faulted_37 : decode cL_faulted 37 = .ok (.iaload, 1) := by decide +kernel
theorem dL_faulted_38 : decode cL_faulted 38 = .ok (.aload_n 0, 1) := by decide +kernel
theorem dL_faulted_39 : decode cL_faulted 39 = .ok (.iload 6, 2) := by decide +kernel
theorem dL_faulted_41 : decode cL_faulted 41 = .ok (.iconst 5, 1) := by decide +kernel
theorem dL_faulted_42 : decode cL_faulted 42 = .ok (.iadd, 1) := by decide +kernel
theorem dL_faulted_43 : decode cL_faulted 43 = .ok (.iaload, 1) := by decide +kernel
theorem dL_faulted_44 : decode cL_faulted 44 = .ok (.if_icmp .le 7, 3) := by decide +kernel
theorem dL_faulted_47 : decode cL_faulted 47 = .ok (.iconst 1, 1) := by decide +kernel
theorem dL_faulted_48 : decode cL_faulted 48 = .ok (.goto 33, 3) := by decide +kernel
theorem dL_faulted_51 : decode cL_faulted 51 = .ok (.aload_n 0, 1) := by decide +kernel
theorem dL_faulted_52 : decode cL_faulted 52 = .ok (.iload 6, 2) := by decide +kernel
theorem dL_faulted_54 : decode cL_faulted 54 = .ok (.bipush 7, 2) := by decide +kernel
theorem dL_faulted_56 : decode cL_faulted 56 = .ok (.iadd, 1) := by decide +kernel
theorem dL_faulted_57 : decode cL_faulted 57 = .ok (.iaload, 1) := by decide +kernel
theorem dL_faulted_58 : decode cL_faulted 58 = .ok (.iconst 1, 1) := by decide +kernel
theorem dL_faulted_59 : decode cL_faulted 59 = .ok (.if_icmp .ne 7, 3) := by decide +kernel
theorem dL_faulted_62 : decode cL_faulted 62 = .ok (.iconst 2, 1) := by decide +kernel
theorem dL_faulted_63 : decode cL_faulted 63 = .ok (.goto 18, 3) := by decide +kernel
theorem dL_faulted_66 : decode cL_faulted 66 = .ok (.iload_n 2, 1) := by decide +kernel
theorem dL_faulted_67 : decode cL_faulted 67 = .ok (.aload_n 0, 1) := by decide +kernel
theorem dL_faulted_68 : decode cL_faulted 68 = .ok (.iload 6, 2) := by decide +kernel
theorem dL_faulted_70 : decode cL_faulted 70 = .ok (.iconst 3, 1) := by decide +kernel
theorem dL_faulted_71 : decode cL_faulted 71 = .ok (.iadd, 1) := by decide +kernel
theorem dL_faulted_72 : decode cL_faulted 72 = .ok (.iaload, 1) := by decide +kernel
theorem dL_faulted_73 : decode cL_faulted 73 = .ok (.if_icmp .le 7, 3) := by decide +kernel
theorem dL_faulted_76 : decode cL_faulted 76 = .ok (.iconst 3, 1) := by decide +kernel
theorem dL_faulted_77 : decode cL_faulted 77 = .ok (.goto 4, 3) := by decide +kernel
theorem dL_faulted_80 : decode cL_faulted 80 = .ok (.iconst 0, 1) := by decide +kernel
theorem dL_faulted_81 : decode cL_faulted 81 = .ok (.istore 7, 2) := by decide +kernel
theorem dL_faulted_83 : decode cL_faulted 83 = .ok (.iload 7, 2) := by decide +kernel
theorem dL_faulted_85 : decode cL_faulted 85 = .ok (.ifCond .le 14, 3) := by decide +kernel
theorem dL_faulted_88 : decode cL_faulted 88 = .ok (.iload 7, 2) := by decide +kernel
theorem dL_faulted_90 : decode cL_faulted 90 = .ok (.bipush 10, 2) := by decide +kernel
theorem dL_faulted_92 : decode cL_faulted 92 = .ok (.iload 4, 2) := by decide +kernel
theorem dL_faulted_94 : decode cL_faulted 94 = .ok (.imul, 1) := by decide +kernel
theorem dL_faulted_95 : decode cL_faulted 95 = .ok (.iadd, 1) := by decide +kernel
theorem dL_faulted_96 : decode cL_faulted 96 = .ok (.goto 4, 3) := by decide +kernel
theorem dL_faulted_99 : decode cL_faulted 99 = .ok (.iload_n 3, 1) := by decide +kernel
theorem dL_faulted_100 : decode cL_faulted 100 = .ok (.istore_n 3, 1) := by decide +kernel
theorem dL_faulted_101 : decode cL_faulted 101 = .ok (.iinc 4 1, 3) := by decide +kernel
theorem dL_faulted_104 : decode cL_faulted 104 = .ok (.aload_n 0, 1) := by decide +kernel
theorem dL_faulted_105 : decode cL_faulted 105 = .ok (.bipush 36, 2) := by decide +kernel
theorem dL_faulted_107 : decode cL_faulted 107 = .ok (.bipush 8, 2) := by decide +kernel
theorem dL_faulted_109 : decode cL_faulted 109 = .ok (.iload 5, 2) := by decide +kernel
theorem dL_faulted_111 : decode cL_faulted 111 = .ok (.imul, 1) := by decide +kernel
theorem dL_faulted_112 : decode cL_faulted 112 = .ok (.iadd, 1) := by decide +kernel
theorem dL_faulted_113 : decode cL_faulted 113 = .ok (.iaload, 1) := by decide +kernel
theorem dL_faulted_114 : decode cL_faulted 114 = .ok (.istore 5, 2) := by decide +kernel
theorem dL_faulted_116 : decode cL_faulted 116 = .ok (.goto (-108), 3) := by decide +kernel
theorem dL_faulted_119 : decode cL_faulted 119 = .ok (.iload_n 3, 1) := by decide +kernel
theorem dL_faulted_120 : decode cL_faulted 120 = .ok (.ireturn, 1) := by decide +kernel
theorem dL_has_0 : decode cL_has 0 = .ok (.iconst 0, 1) := by decide +kernel
theorem dL_has_1 : decode cL_has 1 = .ok (.istore 5, 2) := by decide +kernel
theorem dL_has_3 : decode cL_has 3 = .ok (.iconst 0, 1) := by decide +kernel
theorem dL_has_4 : decode cL_has 4 = .ok (.istore 6, 2) := by decide +kernel
theorem dL_has_6 : decode cL_has 6 = .ok (.iload 6, 2) := by decide +kernel
theorem dL_has_8 : decode cL_has 8 = .ok (.aload_n 0, 1) := by decide +kernel
theorem dL_has_9 : decode cL_has 9 = .ok (.iconst 1, 1) := by decide +kernel
theorem dL_has_10 : decode cL_has 10 = .ok (.iaload, 1) := by decide +kernel
theorem dL_has_11 : decode cL_has 11 = .ok (.if_icmp .ge 72, 3) := by decide +kernel
theorem dL_has_14 : decode cL_has 14 = .ok (.bipush 30, 2) := by decide +kernel
theorem dL_has_16 : decode cL_has 16 = .ok (.bipush 8, 2) := by decide +kernel
theorem dL_has_18 : decode cL_has 18 = .ok (.iload 6, 2) := by decide +kernel
theorem dL_has_20 : decode cL_has 20 = .ok (.imul, 1) := by decide +kernel
theorem dL_has_21 : decode cL_has 21 = .ok (.iadd, 1) := by decide +kernel
theorem dL_has_22 : decode cL_has 22 = .ok (.istore 7, 2) := by decide +kernel
theorem dL_has_24 : decode cL_has 24 = .ok (.iload 5, 2) := by decide +kernel
theorem dL_has_26 : decode cL_has 26 = .ok (.aload_n 0, 1) := by decide +kernel
theorem dL_has_27 : decode cL_has 27 = .ok (.iload 7, 2) := by decide +kernel
theorem dL_has_29 : decode cL_has 29 = .ok (.iconst 1, 1) := by decide +kernel
theorem dL_has_30 : decode cL_has 30 = .ok (.iadd, 1) := by decide +kernel
theorem dL_has_31 : decode cL_has 31 = .ok (.iaload, 1) := by decide +kernel
theorem dL_has_32 : decode cL_has 32 = .ok (.iload_n 2, 1) := by decide +kernel
theorem dL_has_33 : decode cL_has 33 = .ok (.if_icmp .ne 40, 3) := by decide +kernel
theorem dL_has_36 : decode cL_has 36 = .ok (.aload_n 0, 1) := by decide +kernel
theorem dL_has_37 : decode cL_has 37 = .ok (.iload 7, 2) := by decide +kernel
theorem dL_has_39 : decode cL_has 39 = .ok (.iconst 2, 1) := by decide +kernel
theorem dL_has_40 : decode cL_has 40 = .ok (.iadd, 1) := by decide +kernel
theorem dL_has_41 : decode cL_has 41 = .ok (.iaload, 1) := by decide +kernel
theorem dL_has_42 : decode cL_has 42 = .ok (.iload_n 3, 1) := by decide +kernel
theorem dL_has_43 : decode cL_has 43 = .ok (.if_icmp .ne 30, 3) := by decide +kernel
theorem dL_has_46 : decode cL_has 46 = .ok (.aload_n 0, 1) := by decide +kernel
theorem dL_has_47 : decode cL_has 47 = .ok (.iload_n 1, 1) := by decide +kernel
theorem dL_has_48 : decode cL_has 48 = .ok (.aload_n 0, 1) := by decide +kernel
theorem dL_has_49 : decode cL_has 49 = .ok (.iload 7, 2) := by decide +kernel
theorem dL_has_51 : decode cL_has 51 = .ok (.iaload, 1) := by decide +kernel
theorem dL_has_52 : decode cL_has 52 = .ok (.invokestatic 132, 3) := by decide +kernel
theorem dL_has_55 : decode cL_has 55 = .ok (.ifCond .eq 18, 3) := by decide +kernel
theorem dL_has_58 : decode cL_has 58 = .ok (.aload_n 0, 1) := by decide +kernel
theorem dL_has_59 : decode cL_has 59 = .ok (.iload 6, 2) := by decide +kernel
theorem dL_has_61 : decode cL_has 61 = .ok (.iload 4, 2) := by decide +kernel
theorem dL_has_63 : decode cL_has 63 = .ok (.invokestatic 136, 3) := by decide +kernel
theorem dL_has_66 : decode cL_has 66 = .ok (.ifCond .ne 7, 3) := by decide +kernel
theorem dL_has_69 : decode cL_has 69 = .ok (.iconst 1, 1) := by decide +kernel
theorem dL_has_70 : decode cL_has 70 = .ok (.goto 4, 3) := by decide +kernel
theorem dL_has_73 : decode cL_has 73 = .ok (.iconst 0, 1) := by decide +kernel
theorem dL_has_74 : decode cL_has 74 = .ok (.ior, 1) := by decide +kernel
theorem dL_has_75 : decode cL_has 75 = .ok (.istore 5, 2) := by decide +kernel
theorem dL_has_77 : decode cL_has 77 = .ok (.iinc 6 1, 3) := by decide +kernel
theorem dL_has_80 : decode cL_has 80 = .ok (.goto (-74), 3) := by decide +kernel
theorem dL_has_83 : decode cL_has 83 = .ok (.iload 5, 2) := by decide +kernel
theorem dL_has_85 : decode cL_has 85 = .ok (.ireturn, 1) := by decide +kernel
theorem dL_can_0 : decode cL_can 0 = .ok (.aload_n 0, 1) := by decide +kernel
theorem dL_can_1 : decode cL_can 1 = .ok (.iload_n 1, 1) := by decide +kernel
theorem dL_can_2 : decode cL_can 2 = .ok (.iload_n 3, 1) := by decide +kernel
theorem dL_can_3 : decode cL_can 3 = .ok (.iconst 0, 1) := by decide +kernel
theorem dL_can_4 : decode cL_can 4 = .ok (.iload 4, 2) := by decide +kernel
theorem dL_can_6 : decode cL_can 6 = .ok (.invokestatic 139, 3) := by decide +kernel
theorem dL_can_9 : decode cL_can 9 = .ok (.ifCond .ne 19, 3) := by decide +kernel
theorem dL_can_12 : decode cL_can 12 = .ok (.iload_n 2, 1) := by decide +kernel
theorem dL_can_13 : decode cL_can 13 = .ok (.ifCond .lt 17, 3) := by decide +kernel
theorem dL_can_16 : decode cL_can 16 = .ok (.aload_n 0, 1) := by decide +kernel
theorem dL_can_17 : decode cL_can 17 = .ok (.iload_n 2, 1) := by decide +kernel
theorem dL_can_18 : decode cL_can 18 = .ok (.iload_n 3, 1) := by decide +kernel
theorem dL_can_19 : decode cL_can 19 = .ok (.iconst 0, 1) := by decide +kernel
theorem dL_can_20 : decode cL_can 20 = .ok (.iload 4, 2) := by decide +kernel
theorem dL_can_22 : decode cL_can 22 = .ok (.invokestatic 139, 3) := by decide +kernel
theorem dL_can_25 : decode cL_can 25 = .ok (.ifCond .eq 5, 3) := by decide +kernel
theorem dL_can_28 : decode cL_can 28 = .ok (.iconst 1, 1) := by decide +kernel
theorem dL_can_29 : decode cL_can 29 = .ok (.ireturn, 1) := by decide +kernel
theorem dL_can_30 : decode cL_can 30 = .ok (.iload_n 2, 1) := by decide +kernel
theorem dL_can_31 : decode cL_can 31 = .ok (.ifCond .lt 55, 3) := by decide +kernel
theorem dL_can_34 : decode cL_can 34 = .ok (.aload_n 0, 1) := by decide +kernel
theorem dL_can_35 : decode cL_can 35 = .ok (.iload_n 1, 1) := by decide +kernel
theorem dL_can_36 : decode cL_can 36 = .ok (.iload_n 3, 1) := by decide +kernel
theorem dL_can_37 : decode cL_can 37 = .ok (.iconst 1, 1) := by decide +kernel
theorem dL_can_38 : decode cL_can 38 = .ok (.iload 4, 2) := by decide +kernel
theorem dL_can_40 : decode cL_can 40 = .ok (.invokestatic 139, 3) := by decide +kernel
theorem dL_can_43 : decode cL_can 43 = .ok (.ifCond .eq 15, 3) := by decide +kernel
theorem dL_can_46 : decode cL_can 46 = .ok (.aload_n 0, 1) := by decide +kernel
theorem dL_can_47 : decode cL_can 47 = .ok (.iload_n 2, 1) := by decide +kernel
theorem dL_can_48 : decode cL_can 48 = .ok (.iload_n 3, 1) := by decide +kernel
theorem dL_can_49 : decode cL_can 49 = .ok (.iconst 2, 1) := by decide +kernel
theorem dL_can_50 : decode cL_can 50 = .ok (.iload 4, 2) := by decide +kernel
theorem dL_can_52 : decode cL_can 52 = .ok (.invokestatic 139, 3) := by decide +kernel
theorem dL_can_55 : decode cL_can 55 = .ok (.ifCond .ne 27, 3) := by decide +kernel
theorem dL_can_58 : decode cL_can 58 = .ok (.aload_n 0, 1) := by decide +kernel
theorem dL_can_59 : decode cL_can 59 = .ok (.iload_n 1, 1) := by decide +kernel
theorem dL_can_60 : decode cL_can 60 = .ok (.iload_n 3, 1) := by decide +kernel
theorem dL_can_61 : decode cL_can 61 = .ok (.iconst 2, 1) := by decide +kernel
theorem dL_can_62 : decode cL_can 62 = .ok (.iload 4, 2) := by decide +kernel
theorem dL_can_64 : decode cL_can 64 = .ok (.invokestatic 139, 3) := by decide +kernel
theorem dL_can_67 : decode cL_can 67 = .ok (.ifCond .eq 19, 3) := by decide +kernel
theorem dL_can_70 : decode cL_can 70 = .ok (.aload_n 0, 1) := by decide +kernel
theorem dL_can_71 : decode cL_can 71 = .ok (.iload_n 2, 1) := by decide +kernel
theorem dL_can_72 : decode cL_can 72 = .ok (.iload_n 3, 1) := by decide +kernel
theorem dL_can_73 : decode cL_can 73 = .ok (.iconst 1, 1) := by decide +kernel
theorem dL_can_74 : decode cL_can 74 = .ok (.iload 4, 2) := by decide +kernel
theorem dL_can_76 : decode cL_can 76 = .ok (.invokestatic 139, 3) := by decide +kernel
theorem dL_can_79 : decode cL_can 79 = .ok (.ifCond .eq 7, 3) := by decide +kernel
theorem dL_can_82 : decode cL_can 82 = .ok (.iconst 1, 1) := by decide +kernel
theorem dL_can_83 : decode cL_can 83 = .ok (.goto 4, 3) := by decide +kernel
theorem dL_can_86 : decode cL_can 86 = .ok (.iconst 0, 1) := by decide +kernel
theorem dL_can_87 : decode cL_can 87 = .ok (.ireturn, 1) := by decide +kernel
theorem dL_added_0 : decode cL_added 0 = .ok (.iload_n 2, 1) := by decide +kernel
theorem dL_added_1 : decode cL_added 1 = .ok (.istore 4, 2) := by decide +kernel
theorem dL_added_3 : decode cL_added 3 = .ok (.iconst 0, 1) := by decide +kernel
theorem dL_added_4 : decode cL_added 4 = .ok (.istore 5, 2) := by decide +kernel
theorem dL_added_6 : decode cL_added 6 = .ok (.iload 5, 2) := by decide +kernel
theorem dL_added_8 : decode cL_added 8 = .ok (.aload_n 0, 1) := by decide +kernel
theorem dL_added_9 : decode cL_added 9 = .ok (.iconst 2, 1) := by decide +kernel
theorem dL_added_10 : decode cL_added 10 = .ok (.iaload, 1) := by decide +kernel
theorem dL_added_11 : decode cL_added 11 = .ok (.if_icmp .ge 79, 3) := by decide +kernel
theorem dL_added_14 : decode cL_added 14 = .ok (.sipush 200, 3) := by decide +kernel
theorem dL_added_17 : decode cL_added 17 = .ok (.bipush 10, 2) := by decide +kernel
theorem dL_added_19 : decode cL_added 19 = .ok (.iload 5, 2) := by decide +kernel
theorem dL_added_21 : decode cL_added 21 = .ok (.imul, 1) := by decide +kernel
theorem dL_added_22 : decode cL_added 22 = .ok (.iadd, 1) := by decide +kernel
theorem dL_added_23 : decode cL_added 23 = .ok (.istore 6, 2) := by decide +kernel
theorem dL_added_25 : decode cL_added 25 = .ok (.iload 4, 2) := by decide +kernel
theorem dL_added_27 : decode cL_added 27 = .ok (.aload_n 0, 1) := by decide +kernel
theorem dL_added_28 : decode cL_added 28 = .ok (.iload 6, 2) := by decide +kernel
theorem dL_added_30 : decode cL_added 30 = .ok (.iaload, 1) := by decide +kernel
theorem dL_added_31 : decode cL_added 31 = .ok (.iload_n 1, 1) := by decide +kernel
theorem dL_added_32 : decode cL_added 32 = .ok (.if_icmp .ne 48, 3) := by decide +kernel
theorem dL_added_35 : decode cL_added 35 = .ok (.aload_n 0, 1) := by decide +kernel
theorem dL_added_36 : decode cL_added 36 = .ok (.iload 6, 2) := by decide +kernel
theorem dL_added_38 : decode cL_added 38 = .ok (.iconst 2, 1) := by decide +kernel
theorem dL_added_39 : decode cL_added 39 = .ok (.iadd, 1) := by decide +kernel
theorem dL_added_40 : decode cL_added 40 = .ok (.iaload, 1) := by decide +kernel
theorem dL_added_41 : decode cL_added 41 = .ok (.iload_n 3, 1) := by decide +kernel
theorem dL_added_42 : decode cL_added 42 = .ok (.if_icmp .ne 38, 3) := by decide +kernel
theorem dL_added_45 : decode cL_added 45 = .ok (.aload_n 0, 1) := by decide +kernel
theorem dL_added_46 : decode cL_added 46 = .ok (.iload 6, 2) := by decide +kernel
theorem dL_added_48 : decode cL_added 48 = .ok (.iconst 5, 1) := by decide +kernel
theorem dL_added_49 : decode cL_added 49 = .ok (.iadd, 1) := by decide +kernel
theorem dL_added_50 : decode cL_added 50 = .ok (.iaload, 1) := by decide +kernel
theorem dL_added_51 : decode cL_added 51 = .ok (.iconst 3, 1) := by decide +kernel
theorem dL_added_52 : decode cL_added 52 = .ok (.if_icmp .eq 28, 3) := by decide +kernel
theorem dL_added_55 : decode cL_added 55 = .ok (.aload_n 0, 1) := by decide +kernel
theorem dL_added_56 : decode cL_added 56 = .ok (.iload 6, 2) := by decide +kernel
theorem dL_added_58 : decode cL_added 58 = .ok (.iconst 3, 1) := by decide +kernel
theorem dL_added_59 : decode cL_added 59 = .ok (.iadd, 1) := by decide +kernel
theorem dL_added_60 : decode cL_added 60 = .ok (.iaload, 1) := by decide +kernel
theorem dL_added_61 : decode cL_added 61 = .ok (.aload_n 0, 1) := by decide +kernel
theorem dL_added_62 : decode cL_added 62 = .ok (.iconst 4, 1) := by decide +kernel
theorem dL_added_63 : decode cL_added 63 = .ok (.iaload, 1) := by decide +kernel
theorem dL_added_64 : decode cL_added 64 = .ok (.iadd, 1) := by decide +kernel
theorem dL_added_65 : decode cL_added 65 = .ok (.aload_n 0, 1) := by decide +kernel
theorem dL_added_66 : decode cL_added 66 = .ok (.iconst 3, 1) := by decide +kernel
theorem dL_added_67 : decode cL_added 67 = .ok (.iaload, 1) := by decide +kernel
theorem dL_added_68 : decode cL_added 68 = .ok (.if_icmp .le 12, 3) := by decide +kernel
theorem dL_added_71 : decode cL_added 71 = .ok (.aload_n 0, 1) := by decide +kernel
theorem dL_added_72 : decode cL_added 72 = .ok (.iload 6, 2) := by decide +kernel
theorem dL_added_74 : decode cL_added 74 = .ok (.iconst 1, 1) := by decide +kernel
theorem dL_added_75 : decode cL_added 75 = .ok (.iadd, 1) := by decide +kernel
theorem dL_added_76 : decode cL_added 76 = .ok (.iaload, 1) := by decide +kernel
theorem dL_added_77 : decode cL_added 77 = .ok (.goto 4, 3) := by decide +kernel
theorem dL_added_80 : decode cL_added 80 = .ok (.iconst 0, 1) := by decide +kernel
theorem dL_added_81 : decode cL_added 81 = .ok (.iadd, 1) := by decide +kernel
theorem dL_added_82 : decode cL_added 82 = .ok (.istore 4, 2) := by decide +kernel
theorem dL_added_84 : decode cL_added 84 = .ok (.iinc 5 1, 3) := by decide +kernel
theorem dL_added_87 : decode cL_added 87 = .ok (.goto (-81), 3) := by decide +kernel
theorem dL_added_90 : decode cL_added 90 = .ok (.iload 4, 2) := by decide +kernel
theorem dL_added_92 : decode cL_added 92 = .ok (.ireturn, 1) := by decide +kernel
theorem dL_lays_0 : decode cL_lays 0 = .ok (.sipush 200, 3) := by decide +kernel
theorem dL_lays_3 : decode cL_lays 3 = .ok (.bipush 10, 2) := by decide +kernel
theorem dL_lays_5 : decode cL_lays 5 = .ok (.iload_n 1, 1) := by decide +kernel
theorem dL_lays_6 : decode cL_lays 6 = .ok (.imul, 1) := by decide +kernel
theorem dL_lays_7 : decode cL_lays 7 = .ok (.iadd, 1) := by decide +kernel
theorem dL_lays_8 : decode cL_lays 8 = .ok (.istore 4, 2) := by decide +kernel
theorem dL_lays_10 : decode cL_lays 10 = .ok (.aload_n 0, 1) := by decide +kernel
theorem dL_lays_11 : decode cL_lays 11 = .ok (.iload 4, 2) := by decide +kernel
theorem dL_lays_13 : decode cL_lays 13 = .ok (.bipush 6, 2) := by decide +kernel
theorem dL_lays_15 : decode cL_lays 15 = .ok (.iadd, 1) := by decide +kernel
theorem dL_lays_16 : decode cL_lays 16 = .ok (.iconst 0, 1) := by decide +kernel
theorem dL_lays_17 : decode cL_lays 17 = .ok (.iastore, 1) := by decide +kernel
theorem dL_lays_18 : decode cL_lays 18 = .ok (.aload_n 0, 1) := by decide +kernel
theorem dL_lays_19 : decode cL_lays 19 = .ok (.iload 4, 2) := by decide +kernel
theorem dL_lays_21 : decode cL_lays 21 = .ok (.bipush 7, 2) := by decide +kernel
theorem dL_lays_23 : decode cL_lays 23 = .ok (.iadd, 1) := by decide +kernel
theorem dL_lays_24 : decode cL_lays 24 = .ok (.iconst (-1), 1) := by decide +kernel
theorem dL_lays_25 : decode cL_lays 25 = .ok (.iastore, 1) := by decide +kernel
theorem dL_lays_26 : decode cL_lays 26 = .ok (.aload_n 0, 1) := by decide +kernel
theorem dL_lays_27 : decode cL_lays 27 = .ok (.iconst 1, 1) := by decide +kernel
theorem dL_lays_28 : decode cL_lays 28 = .ok (.iaload, 1) := by decide +kernel
theorem dL_lays_29 : decode cL_lays 29 = .ok (.iconst 1, 1) := by decide +kernel
theorem dL_lays_30 : decode cL_lays 30 = .ok (.isub, 1) := by decide +kernel
theorem dL_lays_31 : decode cL_lays 31 = .ok (.istore 5, 2) := by decide +kernel
theorem dL_lays_33 : decode cL_lays 33 = .ok (.iload 5, 2) := by decide +kernel
theorem dL_lays_35 : decode cL_lays 35 = .ok (.ifCond .lt 138, 3) := by decide +kernel
theorem dL_lays_38 : decode cL_lays 38 = .ok (.aload_n 0, 1) := by decide +kernel
theorem dL_lays_39 : decode cL_lays 39 = .ok (.bipush 31, 2) := by decide +kernel
theorem dL_lays_41 : decode cL_lays 41 = .ok (.bipush 8, 2) := by decide +kernel
theorem dL_lays_43 : decode cL_lays 43 = .ok (.iload 5, 2) := by decide +kernel
theorem dL_lays_45 : decode cL_lays 45 = .ok (.imul, 1) := by decide +kernel
theorem dL_lays_46 : decode cL_lays 46 = .ok (.iadd, 1) := by decide +kernel
theorem dL_lays_47 : decode cL_lays 47 = .ok (.iaload, 1) := by decide +kernel
theorem dL_lays_48 : decode cL_lays 48 = .ok (.aload_n 0, 1) := by decide +kernel
theorem dL_lays_49 : decode cL_lays 49 = .ok (.iload 4, 2) := by decide +kernel
theorem dL_lays_51 : decode cL_lays 51 = .ok (.iaload, 1) := by decide +kernel
theorem dL_lays_52 : decode cL_lays 52 = .ok (.if_icmp .ne 115, 3) := by decide +kernel
theorem dL_lays_55 : decode cL_lays 55 = .ok (.aload_n 0, 1) := by decide +kernel
theorem dL_lays_56 : decode cL_lays 56 = .ok (.iload_n 2, 1) := by decide +kernel
theorem dL_lays_57 : decode cL_lays 57 = .ok (.aload_n 0, 1) := by decide +kernel
theorem dL_lays_58 : decode cL_lays 58 = .ok (.bipush 30, 2) := by decide +kernel
theorem dL_lays_60 : decode cL_lays 60 = .ok (.bipush 8, 2) := by decide +kernel
theorem dL_lays_62 : decode cL_lays 62 = .ok (.iload 5, 2) := by decide +kernel
theorem dL_lays_64 : decode cL_lays 64 = .ok (.imul, 1) := by decide +kernel
theorem dL_lays_65 : decode cL_lays 65 = .ok (.iadd, 1) := by decide +kernel
theorem dL_lays_66 : decode cL_lays 66 = .ok (.iaload, 1) := by decide +kernel
theorem dL_lays_67 : decode cL_lays 67 = .ok (.invokestatic 132, 3) := by decide +kernel
theorem dL_lays_70 : decode cL_lays 70 = .ok (.ifCond .ne 25, 3) := by decide +kernel
theorem dL_lays_73 : decode cL_lays 73 = .ok (.iload_n 3, 1) := by decide +kernel
theorem dL_lays_74 : decode cL_lays 74 = .ok (.ifCond .lt 93, 3) := by decide +kernel
theorem dL_lays_77 : decode cL_lays 77 = .ok (.aload_n 0, 1) := by decide +kernel
theorem dL_lays_78 : decode cL_lays 78 = .ok (.iload_n 3, 1) := by decide +kernel
theorem dL_lays_79 : decode cL_lays 79 = .ok (.aload_n 0, 1) := by decide +kernel
theorem dL_lays_80 : decode cL_lays 80 = .ok (.bipush 30, 2) := by decide +kernel
theorem dL_lays_82 : decode cL_lays 82 = .ok (.bipush 8, 2) := by decide +kernel
theorem dL_lays_84 : decode cL_lays 84 = .ok (.iload 5, 2) := by decide +kernel
theorem dL_lays_86 : decode cL_lays 86 = .ok (.imul, 1) := by decide +kernel
theorem dL_lays_87 : decode cL_lays 87 = .ok (.iadd, 1) := by decide +kernel
theorem dL_lays_88 : decode cL_lays 88 = .ok (.iaload, 1) := by decide +kernel
theorem dL_lays_89 : decode cL_lays 89 = .ok (.invokestatic 132, 3) := by decide +kernel
theorem dL_lays_92 : decode cL_lays 92 = .ok (.ifCond .eq 75, 3) := by decide +kernel
theorem dL_lays_95 : decode cL_lays 95 = .ok (.aload_n 0, 1) := by decide +kernel
theorem dL_lays_96 : decode cL_lays 96 = .ok (.iload 5, 2) := by decide +kernel
theorem dL_lays_98 : decode cL_lays 98 = .ok (.aload_n 0, 1) := by decide +kernel
theorem dL_lays_99 : decode cL_lays 99 = .ok (.iload 4, 2) := by decide +kernel
theorem dL_lays_101 : decode cL_lays 101 = .ok (.iconst 4, 1) := by decide +kernel
theorem dL_lays_102 : decode cL_lays 102 = .ok (.iadd, 1) := by decide +kernel
theorem dL_lays_103 : decode cL_lays 103 = .ok (.iaload, 1) := by decide +kernel
theorem dL_lays_104 : decode cL_lays 104 = .ok (.invokestatic 136, 3) := by decide +kernel
theorem dL_lays_107 : decode cL_lays 107 = .ok (.istore 6, 2) := by decide +kernel
theorem dL_lays_109 : decode cL_lays 109 = .ok (.iload 6, 2) := by decide +kernel
theorem dL_lays_111 : decode cL_lays 111 = .ok (.ifCond .ne 7, 3) := by decide +kernel
theorem dL_lays_114 : decode cL_lays 114 = .ok (.iconst 4, 1) := by decide +kernel
theorem dL_lays_115 : decode cL_lays 115 = .ok (.goto 8, 3) := by decide +kernel
theorem dL_lays_118 : decode cL_lays 118 = .ok (.iload 6, 2) := by decide +kernel
theorem dL_lays_120 : decode cL_lays 120 = .ok (.bipush 10, 2) := by decide +kernel
theorem dL_lays_122 : decode cL_lays 122 = .ok (.irem, 1) := by decide +kernel
theorem dL_lays_123 : decode cL_lays 123 = .ok (.istore 7, 2) := by decide +kernel
theorem dL_lays_125 : decode cL_lays 125 = .ok (.iload 7, 2) := by decide +kernel
theorem dL_lays_127 : decode cL_lays 127 = .ok (.aload_n 0, 1) := by decide +kernel
theorem dL_lays_128 : decode cL_lays 128 = .ok (.iload 4, 2) := by decide +kernel
theorem dL_lays_130 : decode cL_lays 130 = .ok (.bipush 6, 2) := by decide +kernel
theorem dL_lays_132 : decode cL_lays 132 = .ok (.iadd, 1) := by decide +kernel
theorem dL_lays_133 : decode cL_lays 133 = .ok (.iaload, 1) := by decide +kernel
theorem dL_lays_134 : decode cL_lays 134 = .ok (.if_icmp .lt 33, 3) := by decide +kernel
theorem dL_lays_137 : decode cL_lays 137 = .ok (.aload_n 0, 1) := by decide +kernel
theorem dL_lays_138 : decode cL_lays 138 = .ok (.iload 4, 2) := by decide +kernel
theorem dL_lays_140 : decode cL_lays 140 = .ok (.bipush 6, 2) := by decide +kernel
theorem dL_lays_142 : decode cL_lays 142 = .ok (.iadd, 1) := by decide +kernel
theorem dL_lays_143 : decode cL_lays 143 = .ok (.iload 7, 2) := by decide +kernel
theorem dL_lays_145 : decode cL_lays 145 = .ok (.iastore, 1) := by decide +kernel
theorem dL_lays_146 : decode cL_lays 146 = .ok (.aload_n 0, 1) := by decide +kernel
theorem dL_lays_147 : decode cL_lays 147 = .ok (.iload 4, 2) := by decide +kernel
theorem dL_lays_149 : decode cL_lays 149 = .ok (.bipush 7, 2) := by decide +kernel
theorem dL_lays_151 : decode cL_lays 151 = .ok (.iadd, 1) := by decide +kernel
theorem dL_lays_152 : decode cL_lays 152 = .ok (.iload 5, 2) := by decide +kernel
theorem dL_lays_154 : decode cL_lays 154 = .ok (.iastore, 1) := by decide +kernel
theorem dL_lays_155 : decode cL_lays 155 = .ok (.aload_n 0, 1) := by decide +kernel
theorem dL_lays_156 : decode cL_lays 156 = .ok (.iload 4, 2) := by decide +kernel
theorem dL_lays_158 : decode cL_lays 158 = .ok (.bipush 8, 2) := by decide +kernel
theorem dL_lays_160 : decode cL_lays 160 = .ok (.iadd, 1) := by decide +kernel
theorem dL_lays_161 : decode cL_lays 161 = .ok (.iload 6, 2) := by decide +kernel
theorem dL_lays_163 : decode cL_lays 163 = .ok (.bipush 10, 2) := by decide +kernel
theorem dL_lays_165 : decode cL_lays 165 = .ok (.idiv, 1) := by decide +kernel
theorem dL_lays_166 : decode cL_lays 166 = .ok (.iastore, 1) := by decide +kernel
theorem dL_lays_167 : decode cL_lays 167 = .ok (.iinc 5 (-1), 3) := by decide +kernel
theorem dL_lays_170 : decode cL_lays 170 = .ok (.goto (-137), 3) := by decide +kernel
theorem dL_lays_173 : decode cL_lays 173 = .ok (.return_, 1) := by decide +kernel
theorem dL_isSigned_0 : decode cL_isSigned 0 = .ok (.aload_n 2, 1) := by decide +kernel
theorem dL_isSigned_1 : decode cL_isSigned 1 = .ok (.iload_n 3, 1) := by decide +kernel
theorem dL_isSigned_2 : decode cL_isSigned 2 = .ok (.aload_n 1, 1) := by decide +kernel
theorem dL_isSigned_3 : decode cL_isSigned 3 = .ok (.iconst 0, 1) := by decide +kernel
theorem dL_isSigned_4 : decode cL_isSigned 4 = .ok (.iaload, 1) := by decide +kernel
theorem dL_isSigned_5 : decode cL_isSigned 5 = .ok (.invokestatic 102, 3) := by decide +kernel
theorem dL_isSigned_8 : decode cL_isSigned 8 = .ok (.istore 4, 2) := by decide +kernel
theorem dL_isSigned_10 : decode cL_isSigned 10 = .ok (.aload_n 2, 1) := by decide +kernel
theorem dL_isSigned_11 : decode cL_isSigned 11 = .ok (.iload_n 3, 1) := by decide +kernel
theorem dL_isSigned_12 : decode cL_isSigned 12 = .ok (.iconst 1, 1) := by decide +kernel
theorem dL_isSigned_13 : decode cL_isSigned 13 = .ok (.iadd, 1) := by decide +kernel
theorem dL_isSigned_14 : decode cL_isSigned 14 = .ok (.iconst 2, 1) := by decide +kernel
theorem dL_isSigned_15 : decode cL_isSigned 15 = .ok (.invokestatic 102, 3) := by decide +kernel
theorem dL_isSigned_18 : decode cL_isSigned 18 = .ok (.ifCond .ne 7, 3) := by decide +kernel
theorem dL_isSigned_21 : decode cL_isSigned 21 = .ok (.iconst (-1), 1) := by decide +kernel
theorem dL_isSigned_22 : decode cL_isSigned 22 = .ok (.goto 13, 3) := by decide +kernel
theorem dL_isSigned_25 : decode cL_isSigned 25 = .ok (.aload_n 2, 1) := by decide +kernel
theorem dL_isSigned_26 : decode cL_isSigned 26 = .ok (.iload_n 3, 1) := by decide +kernel
theorem dL_isSigned_27 : decode cL_isSigned 27 = .ok (.iconst 2, 1) := by decide +kernel
theorem dL_isSigned_28 : decode cL_isSigned 28 = .ok (.iadd, 1) := by decide +kernel
theorem dL_isSigned_29 : decode cL_isSigned 29 = .ok (.aload_n 1, 1) := by decide +kernel
theorem dL_isSigned_30 : decode cL_isSigned 30 = .ok (.iconst 0, 1) := by decide +kernel
theorem dL_isSigned_31 : decode cL_isSigned 31 = .ok (.iaload, 1) := by decide +kernel
theorem dL_isSigned_32 : decode cL_isSigned 32 = .ok (.invokestatic 102, 3) := by decide +kernel
theorem dL_isSigned_35 : decode cL_isSigned 35 = .ok (.istore 5, 2) := by decide +kernel
theorem dL_isSigned_37 : decode cL_isSigned 37 = .ok (.aload_n 2, 1) := by decide +kernel
theorem dL_isSigned_38 : decode cL_isSigned 38 = .ok (.iload_n 3, 1) := by decide +kernel
theorem dL_isSigned_39 : decode cL_isSigned 39 = .ok (.iconst 3, 1) := by decide +kernel
theorem dL_isSigned_40 : decode cL_isSigned 40 = .ok (.iadd, 1) := by decide +kernel
theorem dL_isSigned_41 : decode cL_isSigned 41 = .ok (.iconst 5, 1) := by decide +kernel
theorem dL_isSigned_42 : decode cL_isSigned 42 = .ok (.invokestatic 102, 3) := by decide +kernel
theorem dL_isSigned_45 : decode cL_isSigned 45 = .ok (.ifCond .ne 7, 3) := by decide +kernel
theorem dL_isSigned_48 : decode cL_isSigned 48 = .ok (.iconst 1, 1) := by decide +kernel
theorem dL_isSigned_49 : decode cL_isSigned 49 = .ok (.goto 4, 3) := by decide +kernel
theorem dL_isSigned_52 : decode cL_isSigned 52 = .ok (.iconst 0, 1) := by decide +kernel
theorem dL_isSigned_53 : decode cL_isSigned 53 = .ok (.istore 6, 2) := by decide +kernel
theorem dL_isSigned_55 : decode cL_isSigned 55 = .ok (.iconst 1, 1) := by decide +kernel
theorem dL_isSigned_56 : decode cL_isSigned 56 = .ok (.aload_n 2, 1) := by decide +kernel
theorem dL_isSigned_57 : decode cL_isSigned 57 = .ok (.iload_n 3, 1) := by decide +kernel
theorem dL_isSigned_58 : decode cL_isSigned 58 = .ok (.iconst 4, 1) := by decide +kernel
theorem dL_isSigned_59 : decode cL_isSigned 59 = .ok (.iadd, 1) := by decide +kernel
theorem dL_isSigned_60 : decode cL_isSigned 60 = .ok (.aload_n 2, 1) := by decide +kernel
theorem dL_isSigned_61 : decode cL_isSigned 61 = .ok (.iload_n 3, 1) := by decide +kernel
theorem dL_isSigned_62 : decode cL_isSigned 62 = .ok (.iconst 5, 1) := by decide +kernel
theorem dL_isSigned_63 : decode cL_isSigned 63 = .ok (.iadd, 1) := by decide +kernel
theorem dL_isSigned_64 : decode cL_isSigned 64 = .ok (.iconst 4, 1) := by decide +kernel
theorem dL_isSigned_65 : decode cL_isSigned 65 = .ok (.invokestatic 102, 3) := by decide +kernel
theorem dL_isSigned_68 : decode cL_isSigned 68 = .ok (.ifCond .ne 9, 3) := by decide +kernel
theorem dL_isSigned_71 : decode cL_isSigned 71 = .ok (.sipush 9999, 3) := by decide +kernel
theorem dL_isSigned_74 : decode cL_isSigned 74 = .ok (.goto 6, 3) := by decide +kernel
theorem dL_isSigned_77 : decode cL_isSigned 77 = .ok (.sipush 900, 3) := by decide +kernel
theorem dL_isSigned_80 : decode cL_isSigned 80 = .ok (.invokestatic 102, 3) := by decide +kernel
theorem dL_isSigned_83 : decode cL_isSigned 83 = .ok (.iadd, 1) := by decide +kernel
theorem dL_isSigned_84 : decode cL_isSigned 84 = .ok (.istore 7, 2) := by decide +kernel
theorem dL_isSigned_86 : decode cL_isSigned 86 = .ok (.aload_n 2, 1) := by decide +kernel
theorem dL_isSigned_87 : decode cL_isSigned 87 = .ok (.iload_n 3, 1) := by decide +kernel
theorem dL_isSigned_88 : decode cL_isSigned 88 = .ok (.bipush 6, 2) := by decide +kernel
theorem dL_isSigned_90 : decode cL_isSigned 90 = .ok (.iadd, 1) := by decide +kernel
theorem dL_isSigned_91 : decode cL_isSigned 91 = .ok (.iconst 3, 1) := by decide +kernel
theorem dL_isSigned_92 : decode cL_isSigned 92 = .ok (.invokestatic 102, 3) := by decide +kernel
theorem dL_isSigned_95 : decode cL_isSigned 95 = .ok (.istore 8, 2) := by decide +kernel
theorem dL_isSigned_97 : decode cL_isSigned 97 = .ok (.iload 4, 2) := by decide +kernel
theorem dL_isSigned_99 : decode cL_isSigned 99 = .ok (.iload 5, 2) := by decide +kernel
theorem dL_isSigned_101 : decode cL_isSigned 101 = .ok (.if_icmp .ne 28, 3) := by decide +kernel
theorem dL_isSigned_104 : decode cL_isSigned 104 = .ok (.aload_n 0, 1) := by decide +kernel
theorem dL_isSigned_105 : decode cL_isSigned 105 = .ok (.iload 4, 2) := by decide +kernel
theorem dL_isSigned_107 : decode cL_isSigned 107 = .ok (.iload 5, 2) := by decide +kernel
theorem dL_isSigned_109 : decode cL_isSigned 109 = .ok (.iload 6, 2) := by decide +kernel
theorem dL_isSigned_111 : decode cL_isSigned 111 = .ok (.iload 7, 2) := by decide +kernel
theorem dL_isSigned_113 : decode cL_isSigned 113 = .ok (.iload 8, 2) := by decide +kernel
theorem dL_isSigned_115 : decode cL_isSigned 115 = .ok (.invokestatic 143, 3) := by decide +kernel
theorem dL_isSigned_118 : decode cL_isSigned 118 = .ok (.ldc 35, 2) := by decide +kernel
theorem dL_isSigned_120 : decode cL_isSigned 120 = .ok (.if_icmp .ne 7, 3) := by decide +kernel
theorem dL_isSigned_123 : decode cL_isSigned 123 = .ok (.iconst 1, 1) := by decide +kernel
theorem dL_isSigned_124 : decode cL_isSigned 124 = .ok (.goto 4, 3) := by decide +kernel
theorem dL_isSigned_127 : decode cL_isSigned 127 = .ok (.iconst 0, 1) := by decide +kernel
theorem dL_isSigned_128 : decode cL_isSigned 128 = .ok (.ireturn, 1) := by decide +kernel
theorem dL_isSigned_129 : decode cL_isSigned 129 = .ok (.aload_n 1, 1) := by decide +kernel
theorem dL_isSigned_130 : decode cL_isSigned 130 = .ok (.iconst 2, 1) := by decide +kernel
theorem dL_isSigned_131 : decode cL_isSigned 131 = .ok (.iaload, 1) := by decide +kernel
theorem dL_isSigned_132 : decode cL_isSigned 132 = .ok (.bipush 24, 2) := by decide +kernel
theorem dL_isSigned_134 : decode cL_isSigned 134 = .ok (.if_icmp .ne 58, 3) := by decide +kernel
theorem dL_isSigned_137 : decode cL_isSigned 137 = .ok (.iload 5, 2) := by decide +kernel
theorem dL_isSigned_139 : decode cL_isSigned 139 = .ok (.ifCond .ge 18, 3) := by decide +kernel
theorem dL_isSigned_142 : decode cL_isSigned 142 = .ok (.aload_n 0, 1) := by decide +kernel
theorem dL_isSigned_143 : decode cL_isSigned 143 = .ok (.iload 4, 2) := by decide +kernel
theorem dL_isSigned_145 : decode cL_isSigned 145 = .ok (.iload 6, 2) := by decide +kernel
theorem dL_isSigned_147 : decode cL_isSigned 147 = .ok (.iload 7, 2) := by decide +kernel
theorem dL_isSigned_149 : decode cL_isSigned 149 = .ok (.iload 8, 2) := by decide +kernel
theorem dL_isSigned_151 : decode cL_isSigned 151 = .ok (.invokestatic 145, 3) := by decide +kernel
theorem dL_isSigned_154 : decode cL_isSigned 154 = .ok (.goto 17, 3) := by decide +kernel
theorem dL_isSigned_157 : decode cL_isSigned 157 = .ok (.aload_n 0, 1) := by decide +kernel
theorem dL_isSigned_158 : decode cL_isSigned 158 = .ok (.iload 4, 2) := by decide +kernel
theorem dL_isSigned_160 : decode cL_isSigned 160 = .ok (.iload 5, 2) := by decide +kernel
theorem dL_isSigned_162 : decode cL_isSigned 162 = .ok (.iload 6, 2) := by decide +kernel
theorem dL_isSigned_164 : decode cL_isSigned 164 = .ok (.iload 7, 2) := by decide +kernel
theorem dL_isSigned_166 : decode cL_isSigned 166 = .ok (.iload 8, 2) := by decide +kernel
theorem dL_isSigned_168 : decode cL_isSigned 168 = .ok (.invokestatic 143, 3) := by decide +kernel
theorem dL_isSigned_171 : decode cL_isSigned 171 = .ok (.iload 5, 2) := by decide +kernel
theorem dL_isSigned_173 : decode cL_isSigned 173 = .ok (.ifCond .ge 8, 3) := by decide +kernel
theorem dL_isSigned_176 : decode cL_isSigned 176 = .ok (.ldc 35, 2) := by decide +kernel
theorem dL_isSigned_178 : decode cL_isSigned 178 = .ok (.goto 5, 3) := by decide +kernel
theorem dL_isSigned_181 : decode cL_isSigned 181 = .ok (.ldc 42, 2) := by decide +kernel
theorem dL_isSigned_183 : decode cL_isSigned 183 = .ok (.if_icmp .ne 7, 3) := by decide +kernel
theorem dL_isSigned_186 : decode cL_isSigned 186 = .ok (.iconst 1, 1) := by decide +kernel
theorem dL_isSigned_187 : decode cL_isSigned 187 = .ok (.goto 4, 3) := by decide +kernel
theorem dL_isSigned_190 : decode cL_isSigned 190 = .ok (.iconst 0, 1) := by decide +kernel
theorem dL_isSigned_191 : decode cL_isSigned 191 = .ok (.ireturn, 1) := by decide +kernel
theorem dL_isSigned_192 : decode cL_isSigned 192 = .ok (.aload_n 1, 1) := by decide +kernel
theorem dL_isSigned_193 : decode cL_isSigned 193 = .ok (.iconst 2, 1) := by decide +kernel
theorem dL_isSigned_194 : decode cL_isSigned 194 = .ok (.iaload, 1) := by decide +kernel
theorem dL_isSigned_195 : decode cL_isSigned 195 = .ok (.istore 9, 2) := by decide +kernel
theorem dL_isSigned_197 : decode cL_isSigned 197 = .ok (.sipush 200, 3) := by decide +kernel
theorem dL_isSigned_200 : decode cL_isSigned 200 = .ok (.bipush 10, 2) := by decide +kernel
theorem dL_isSigned_202 : decode cL_isSigned 202 = .ok (.iload 9, 2) := by decide +kernel
theorem dL_isSigned_204 : decode cL_isSigned 204 = .ok (.imul, 1) := by decide +kernel
theorem dL_isSigned_205 : decode cL_isSigned 205 = .ok (.iadd, 1) := by decide +kernel
theorem dL_isSigned_206 : decode cL_isSigned 206 = .ok (.istore 10, 2) := by decide +kernel
theorem dL_isSigned_208 : decode cL_isSigned 208 = .ok (.aload_n 1, 1) := by decide +kernel
theorem dL_isSigned_209 : decode cL_isSigned 209 = .ok (.iload 10, 2) := by decide +kernel
theorem dL_isSigned_211 : decode cL_isSigned 211 = .ok (.iconst 4, 1) := by decide +kernel
theorem dL_isSigned_212 : decode cL_isSigned 212 = .ok (.iadd, 1) := by decide +kernel
theorem dL_isSigned_213 : decode cL_isSigned 213 = .ok (.aload_n 1, 1) := by decide +kernel
theorem dL_isSigned_214 : decode cL_isSigned 214 = .ok (.iload 6, 2) := by decide +kernel
theorem dL_isSigned_216 : decode cL_isSigned 216 = .ok (.iload 7, 2) := by decide +kernel
theorem dL_isSigned_218 : decode cL_isSigned 218 = .ok (.iload 8, 2) := by decide +kernel
theorem dL_isSigned_220 : decode cL_isSigned 220 = .ok (.invokestatic 148, 3) := by decide +kernel
theorem dL_isSigned_223 : decode cL_isSigned 223 = .ok (.iastore, 1) := by decide +kernel
theorem dL_isSigned_224 : decode cL_isSigned 224 = .ok (.aload_n 1, 1) := by decide +kernel
theorem dL_isSigned_225 : decode cL_isSigned 225 = .ok (.iload 10, 2) := by decide +kernel
theorem dL_isSigned_227 : decode cL_isSigned 227 = .ok (.iload 6, 2) := by decide +kernel
theorem dL_isSigned_229 : decode cL_isSigned 229 = .ok (.iastore, 1) := by decide +kernel
theorem dL_isSigned_230 : decode cL_isSigned 230 = .ok (.aload_n 1, 1) := by decide +kernel
theorem dL_isSigned_231 : decode cL_isSigned 231 = .ok (.iload 10, 2) := by decide +kernel
theorem dL_isSigned_233 : decode cL_isSigned 233 = .ok (.iconst 1, 1) := by decide +kernel
theorem dL_isSigned_234 : decode cL_isSigned 234 = .ok (.iadd, 1) := by decide +kernel
theorem dL_isSigned_235 : decode cL_isSigned 235 = .ok (.iload 7, 2) := by decide +kernel
theorem dL_isSigned_237 : decode cL_isSigned 237 = .ok (.iastore, 1) := by decide +kernel
theorem dL_isSigned_238 : decode cL_isSigned 238 = .ok (.aload_n 1, 1) := by decide +kernel
theorem dL_isSigned_239 : decode cL_isSigned 239 = .ok (.iload 10, 2) := by decide +kernel
theorem dL_isSigned_241 : decode cL_isSigned 241 = .ok (.iconst 2, 1) := by decide +kernel
theorem dL_isSigned_242 : decode cL_isSigned 242 = .ok (.iadd, 1) := by decide +kernel
theorem dL_isSigned_243 : decode cL_isSigned 243 = .ok (.iload 8, 2) := by decide +kernel
theorem dL_isSigned_245 : decode cL_isSigned 245 = .ok (.iastore, 1) := by decide +kernel
theorem dL_isSigned_246 : decode cL_isSigned 246 = .ok (.aload_n 1, 1) := by decide +kernel
theorem dL_isSigned_247 : decode cL_isSigned 247 = .ok (.iload 10, 2) := by decide +kernel
theorem dL_isSigned_249 : decode cL_isSigned 249 = .ok (.iconst 3, 1) := by decide +kernel
theorem dL_isSigned_250 : decode cL_isSigned 250 = .ok (.iadd, 1) := by decide +kernel
theorem dL_isSigned_251 : decode cL_isSigned 251 = .ok (.aload_n 1, 1) := by decide +kernel
theorem dL_isSigned_252 : decode cL_isSigned 252 = .ok (.iconst 3, 1) := by decide +kernel
theorem dL_isSigned_253 : decode cL_isSigned 253 = .ok (.iaload, 1) := by decide +kernel
theorem dL_isSigned_254 : decode cL_isSigned 254 = .ok (.iastore, 1) := by decide +kernel
theorem dL_isSigned_255 : decode cL_isSigned 255 = .ok (.aload_n 1, 1) := by decide +kernel
theorem dL_isSigned_256 : decode cL_isSigned 256 = .ok (.iload 10, 2) := by decide +kernel
theorem dL_isSigned_258 : decode cL_isSigned 258 = .ok (.iconst 5, 1) := by decide +kernel
theorem dL_isSigned_259 : decode cL_isSigned 259 = .ok (.iadd, 1) := by decide +kernel
theorem dL_isSigned_260 : decode cL_isSigned 260 = .ok (.aload_n 1, 1) := by decide +kernel
theorem dL_isSigned_261 : decode cL_isSigned 261 = .ok (.iload 4, 2) := by decide +kernel
theorem dL_isSigned_263 : decode cL_isSigned 263 = .ok (.iload 5, 2) := by decide +kernel
theorem dL_isSigned_265 : decode cL_isSigned 265 = .ok (.iload 6, 2) := by decide +kernel
theorem dL_isSigned_267 : decode cL_isSigned 267 = .ok (.aload_n 1, 1) := by decide +kernel
theorem dL_isSigned_268 : decode cL_isSigned 268 = .ok (.iload 10, 2) := by decide +kernel
theorem dL_isSigned_270 : decode cL_isSigned 270 = .ok (.iconst 4, 1) := by decide +kernel
theorem dL_isSigned_271 : decode cL_isSigned 271 = .ok (.iadd, 1) := by decide +kernel
theorem dL_isSigned_272 : decode cL_isSigned 272 = .ok (.iaload, 1) := by decide +kernel
theorem dL_isSigned_273 : decode cL_isSigned 273 = .ok (.invokestatic 152, 3) := by decide +kernel
theorem dL_isSigned_276 : decode cL_isSigned 276 = .ok (.ifCond .eq 7, 3) := by decide +kernel
theorem dL_isSigned_279 : decode cL_isSigned 279 = .ok (.iconst 0, 1) := by decide +kernel
theorem dL_isSigned_280 : decode cL_isSigned 280 = .ok (.goto 4, 3) := by decide +kernel
theorem dL_isSigned_283 : decode cL_isSigned 283 = .ok (.iconst 1, 1) := by decide +kernel
theorem dL_isSigned_284 : decode cL_isSigned 284 = .ok (.iastore, 1) := by decide +kernel
theorem dL_isSigned_285 : decode cL_isSigned 285 = .ok (.aload_n 1, 1) := by decide +kernel
theorem dL_isSigned_286 : decode cL_isSigned 286 = .ok (.iload 10, 2) := by decide +kernel
theorem dL_isSigned_288 : decode cL_isSigned 288 = .ok (.iconst 5, 1) := by decide +kernel
theorem dL_isSigned_289 : decode cL_isSigned 289 = .ok (.iadd, 1) := by decide +kernel
theorem dL_isSigned_290 : decode cL_isSigned 290 = .ok (.iaload, 1) := by decide +kernel
theorem dL_isSigned_291 : decode cL_isSigned 291 = .ok (.iconst 1, 1) := by decide +kernel
theorem dL_isSigned_292 : decode cL_isSigned 292 = .ok (.if_icmp .ne 13, 3) := by decide +kernel
theorem dL_isSigned_295 : decode cL_isSigned 295 = .ok (.aload_n 1, 1) := by decide +kernel
theorem dL_isSigned_296 : decode cL_isSigned 296 = .ok (.iload 9, 2) := by decide +kernel
theorem dL_isSigned_298 : decode cL_isSigned 298 = .ok (.iload 4, 2) := by decide +kernel
theorem dL_isSigned_300 : decode cL_isSigned 300 = .ok (.iload 5, 2) := by decide +kernel
theorem dL_isSigned_302 : decode cL_isSigned 302 = .ok (.invokestatic 155, 3) := by decide +kernel
theorem dL_isSigned_305 : decode cL_isSigned 305 = .ok (.aload_n 1, 1) := by decide +kernel
theorem dL_isSigned_306 : decode cL_isSigned 306 = .ok (.iconst 2, 1) := by decide +kernel
theorem dL_isSigned_307 : decode cL_isSigned 307 = .ok (.dup2, 1) := by decide +kernel
theorem dL_isSigned_308 : decode cL_isSigned 308 = .ok (.iaload, 1) := by decide +kernel
theorem dL_isSigned_309 : decode cL_isSigned 309 = .ok (.iconst 1, 1) := by decide +kernel
theorem dL_isSigned_310 : decode cL_isSigned 310 = .ok (.iadd, 1) := by decide +kernel
theorem dL_isSigned_311 : decode cL_isSigned 311 = .ok (.iastore, 1) := by decide +kernel
theorem dL_isSigned_312 : decode cL_isSigned 312 = .ok (.iload 5, 2) := by decide +kernel
theorem dL_isSigned_314 : decode cL_isSigned 314 = .ok (.ifCond .ge 18, 3) := by decide +kernel
theorem dL_isSigned_317 : decode cL_isSigned 317 = .ok (.aload_n 0, 1) := by decide +kernel
theorem dL_isSigned_318 : decode cL_isSigned 318 = .ok (.iload 4, 2) := by decide +kernel
theorem dL_isSigned_320 : decode cL_isSigned 320 = .ok (.iload 6, 2) := by decide +kernel
theorem dL_isSigned_322 : decode cL_isSigned 322 = .ok (.iload 7, 2) := by decide +kernel
theorem dL_isSigned_324 : decode cL_isSigned 324 = .ok (.iload 8, 2) := by decide +kernel
theorem dL_isSigned_326 : decode cL_isSigned 326 = .ok (.invokestatic 145, 3) := by decide +kernel
theorem dL_isSigned_329 : decode cL_isSigned 329 = .ok (.goto 17, 3) := by decide +kernel
theorem dL_isSigned_332 : decode cL_isSigned 332 = .ok (.aload_n 0, 1) := by decide +kernel
theorem dL_isSigned_333 : decode cL_isSigned 333 = .ok (.iload 4, 2) := by decide +kernel
theorem dL_isSigned_335 : decode cL_isSigned 335 = .ok (.iload 5, 2) := by decide +kernel
theorem dL_isSigned_337 : decode cL_isSigned 337 = .ok (.iload 6, 2) := by decide +kernel
theorem dL_isSigned_339 : decode cL_isSigned 339 = .ok (.iload 7, 2) := by decide +kernel
theorem dL_isSigned_341 : decode cL_isSigned 341 = .ok (.iload 8, 2) := by decide +kernel
theorem dL_isSigned_343 : decode cL_isSigned 343 = .ok (.invokestatic 143, 3) := by decide +kernel
theorem dL_isSigned_346 : decode cL_isSigned 346 = .ok (.iload 9, 2) := by decide +kernel
theorem dL_isSigned_348 : decode cL_isSigned 348 = .ok (.if_icmp .ne 7, 3) := by decide +kernel
theorem dL_isSigned_351 : decode cL_isSigned 351 = .ok (.iconst 1, 1) := by decide +kernel
theorem dL_isSigned_352 : decode cL_isSigned 352 = .ok (.goto 4, 3) := by decide +kernel
theorem dL_isSigned_355 : decode cL_isSigned 355 = .ok (.iconst 0, 1) := by decide +kernel
theorem dL_isSigned_356 : decode cL_isSigned 356 = .ok (.ireturn, 1) := by decide +kernel
theorem dL_isRatified_0 : decode cL_isRatified 0 = .ok (.sipush 200, 3) := by decide +kernel
theorem dL_isRatified_3 : decode cL_isRatified 3 = .ok (.bipush 10, 2) := by decide +kernel
theorem dL_isRatified_5 : decode cL_isRatified 5 = .ok (.iload_n 2, 1) := by decide +kernel
theorem dL_isRatified_6 : decode cL_isRatified 6 = .ok (.imul, 1) := by decide +kernel
theorem dL_isRatified_7 : decode cL_isRatified 7 = .ok (.iadd, 1) := by decide +kernel
theorem dL_isRatified_8 : decode cL_isRatified 8 = .ok (.istore 4, 2) := by decide +kernel
theorem dL_isRatified_10 : decode cL_isRatified 10 = .ok (.aload_n 1, 1) := by decide +kernel
theorem dL_isRatified_11 : decode cL_isRatified 11 = .ok (.iload 4, 2) := by decide +kernel
theorem dL_isRatified_13 : decode cL_isRatified 13 = .ok (.iconst 5, 1) := by decide +kernel
theorem dL_isRatified_14 : decode cL_isRatified 14 = .ok (.iadd, 1) := by decide +kernel
theorem dL_isRatified_15 : decode cL_isRatified 15 = .ok (.iaload, 1) := by decide +kernel
theorem dL_isRatified_16 : decode cL_isRatified 16 = .ok (.iconst 1, 1) := by decide +kernel
theorem dL_isRatified_17 : decode cL_isRatified 17 = .ok (.if_icmp .eq 20, 3) := by decide +kernel
theorem dL_isRatified_20 : decode cL_isRatified 20 = .ok (.aload_n 0, 1) := by decide +kernel
theorem dL_isRatified_21 : decode cL_isRatified 21 = .ok (.iload_n 2, 1) := by decide +kernel
theorem dL_isRatified_22 : decode cL_isRatified 22 = .ok (.iload_n 3, 1) := by decide +kernel
theorem dL_isRatified_23 : decode cL_isRatified 23 = .ok (.invokestatic 159, 3) := by decide +kernel
theorem dL_isRatified_26 : decode cL_isRatified 26 = .ok (.ldc 26, 2) := by decide +kernel
theorem dL_isRatified_28 : decode cL_isRatified 28 = .ok (.if_icmp .ne 7, 3) := by decide +kernel
theorem dL_isRatified_31 : decode cL_isRatified 31 = .ok (.iconst 1, 1) := by decide +kernel
theorem dL_isRatified_32 : decode cL_isRatified 32 = .ok (.goto 4, 3) := by decide +kernel
theorem dL_isRatified_35 : decode cL_isRatified 35 = .ok (.iconst 0, 1) := by decide +kernel
theorem dL_isRatified_36 : decode cL_isRatified 36 = .ok (.ireturn, 1) := by decide +kernel
theorem dL_isRatified_37 : decode cL_isRatified 37 = .ok (.aload_n 1, 1) := by decide +kernel
theorem dL_isRatified_38 : decode cL_isRatified 38 = .ok (.iload_n 3, 1) := by decide +kernel
theorem dL_isRatified_39 : decode cL_isRatified 39 = .ok (.aload_n 1, 1) := by decide +kernel
theorem dL_isRatified_40 : decode cL_isRatified 40 = .ok (.iload 4, 2) := by decide +kernel
theorem dL_isRatified_42 : decode cL_isRatified 42 = .ok (.iaload, 1) := by decide +kernel
theorem dL_isRatified_43 : decode cL_isRatified 43 = .ok (.iconst 0, 1) := by decide +kernel
theorem dL_isRatified_44 : decode cL_isRatified 44 = .ok (.aload_n 1, 1) := by decide +kernel
theorem dL_isRatified_45 : decode cL_isRatified 45 = .ok (.iload 4, 2) := by decide +kernel
theorem dL_isRatified_47 : decode cL_isRatified 47 = .ok (.iconst 4, 1) := by decide +kernel
theorem dL_isRatified_48 : decode cL_isRatified 48 = .ok (.iadd, 1) := by decide +kernel
theorem dL_isRatified_49 : decode cL_isRatified 49 = .ok (.iaload, 1) := by decide +kernel
theorem dL_isRatified_50 : decode cL_isRatified 50 = .ok (.invokestatic 139, 3) := by decide +kernel
theorem dL_isRatified_53 : decode cL_isRatified 53 = .ok (.ifCond .ne 20, 3) := by decide +kernel
theorem dL_isRatified_56 : decode cL_isRatified 56 = .ok (.aload_n 0, 1) := by decide +kernel
theorem dL_isRatified_57 : decode cL_isRatified 57 = .ok (.iload_n 2, 1) := by decide +kernel
theorem dL_isRatified_58 : decode cL_isRatified 58 = .ok (.iload_n 3, 1) := by decide +kernel
theorem dL_isRatified_59 : decode cL_isRatified 59 = .ok (.invokestatic 159, 3) := by decide +kernel
theorem dL_isRatified_62 : decode cL_isRatified 62 = .ok (.ldc 35, 2) := by decide +kernel
theorem dL_isRatified_64 : decode cL_isRatified 64 = .ok (.if_icmp .ne 7, 3) := by decide +kernel
theorem dL_isRatified_67 : decode cL_isRatified 67 = .ok (.iconst 1, 1) := by decide +kernel
theorem dL_isRatified_68 : decode cL_isRatified 68 = .ok (.goto 4, 3) := by decide +kernel
theorem dL_isRatified_71 : decode cL_isRatified 71 = .ok (.iconst 0, 1) := by decide +kernel
theorem dL_isRatified_72 : decode cL_isRatified 72 = .ok (.ireturn, 1) := by decide +kernel
theorem dL_isRatified_73 : decode cL_isRatified 73 = .ok (.aload_n 1, 1) := by decide +kernel
theorem dL_isRatified_74 : decode cL_isRatified 74 = .ok (.iload 4, 2) := by decide +kernel
theorem dL_isRatified_76 : decode cL_isRatified 76 = .ok (.iconst 5, 1) := by decide +kernel
theorem dL_isRatified_77 : decode cL_isRatified 77 = .ok (.iadd, 1) := by decide +kernel
theorem dL_isRatified_78 : decode cL_isRatified 78 = .ok (.iconst 2, 1) := by decide +kernel
theorem dL_isRatified_79 : decode cL_isRatified 79 = .ok (.iastore, 1) := by decide +kernel
theorem dL_isRatified_80 : decode cL_isRatified 80 = .ok (.aload_n 0, 1) := by decide +kernel
theorem dL_isRatified_81 : decode cL_isRatified 81 = .ok (.iload_n 2, 1) := by decide +kernel
theorem dL_isRatified_82 : decode cL_isRatified 82 = .ok (.iload_n 3, 1) := by decide +kernel
theorem dL_isRatified_83 : decode cL_isRatified 83 = .ok (.invokestatic 159, 3) := by decide +kernel
theorem dL_isRatified_86 : decode cL_isRatified 86 = .ok (.aload_n 1, 1) := by decide +kernel
theorem dL_isRatified_87 : decode cL_isRatified 87 = .ok (.iload 4, 2) := by decide +kernel
theorem dL_isRatified_89 : decode cL_isRatified 89 = .ok (.iconst 4, 1) := by decide +kernel
theorem dL_isRatified_90 : decode cL_isRatified 90 = .ok (.iadd, 1) := by decide +kernel
theorem dL_isRatified_91 : decode cL_isRatified 91 = .ok (.iaload, 1) := by decide +kernel
theorem dL_isRatified_92 : decode cL_isRatified 92 = .ok (.if_icmp .ne 7, 3) := by decide +kernel
theorem dL_isRatified_95 : decode cL_isRatified 95 = .ok (.iconst 1, 1) := by decide +kernel
theorem dL_isRatified_96 : decode cL_isRatified 96 = .ok (.goto 4, 3) := by decide +kernel
theorem dL_isRatified_99 : decode cL_isRatified 99 = .ok (.iconst 0, 1) := by decide +kernel
theorem dL_isRatified_100 : decode cL_isRatified 100 = .ok (.ireturn, 1) := by decide +kernel
theorem dL_isAnnulled_0 : decode cL_isAnnulled 0 = .ok (.aload_n 1, 1) := by decide +kernel
theorem dL_isAnnulled_1 : decode cL_isAnnulled 1 = .ok (.sipush 205, 3) := by decide +kernel
theorem dL_isAnnulled_4 : decode cL_isAnnulled 4 = .ok (.bipush 10, 2) := by decide +kernel
theorem dL_isAnnulled_6 : decode cL_isAnnulled 6 = .ok (.iload_n 2, 1) := by decide +kernel
theorem dL_isAnnulled_7 : decode cL_isAnnulled 7 = .ok (.imul, 1) := by decide +kernel
theorem dL_isAnnulled_8 : decode cL_isAnnulled 8 = .ok (.iadd, 1) := by decide +kernel
theorem dL_isAnnulled_9 : decode cL_isAnnulled 9 = .ok (.iaload, 1) := by decide +kernel
theorem dL_isAnnulled_10 : decode cL_isAnnulled 10 = .ok (.iconst 1, 1) := by decide +kernel
theorem dL_isAnnulled_11 : decode cL_isAnnulled 11 = .ok (.if_icmp .eq 19, 3) := by decide +kernel
theorem dL_isAnnulled_14 : decode cL_isAnnulled 14 = .ok (.aload_n 0, 1) := by decide +kernel
theorem dL_isAnnulled_15 : decode cL_isAnnulled 15 = .ok (.iload_n 2, 1) := by decide +kernel
theorem dL_isAnnulled_16 : decode cL_isAnnulled 16 = .ok (.invokestatic 162, 3) := by decide +kernel
theorem dL_isAnnulled_19 : decode cL_isAnnulled 19 = .ok (.ldc 26, 2) := by decide +kernel
theorem dL_isAnnulled_21 : decode cL_isAnnulled 21 = .ok (.if_icmp .ne 7, 3) := by decide +kernel
theorem dL_isAnnulled_24 : decode cL_isAnnulled 24 = .ok (.iconst 1, 1) := by decide +kernel
theorem dL_isAnnulled_25 : decode cL_isAnnulled 25 = .ok (.goto 4, 3) := by decide +kernel
theorem dL_isAnnulled_28 : decode cL_isAnnulled 28 = .ok (.iconst 0, 1) := by decide +kernel
theorem dL_isAnnulled_29 : decode cL_isAnnulled 29 = .ok (.ireturn, 1) := by decide +kernel
theorem dL_isAnnulled_30 : decode cL_isAnnulled 30 = .ok (.aload_n 1, 1) := by decide +kernel
theorem dL_isAnnulled_31 : decode cL_isAnnulled 31 = .ok (.sipush 205, 3) := by decide +kernel
theorem dL_isAnnulled_34 : decode cL_isAnnulled 34 = .ok (.bipush 10, 2) := by decide +kernel
theorem dL_isAnnulled_36 : decode cL_isAnnulled 36 = .ok (.iload_n 2, 1) := by decide +kernel
theorem dL_isAnnulled_37 : decode cL_isAnnulled 37 = .ok (.imul, 1) := by decide +kernel
theorem dL_isAnnulled_38 : decode cL_isAnnulled 38 = .ok (.iadd, 1) := by decide +kernel
theorem dL_isAnnulled_39 : decode cL_isAnnulled 39 = .ok (.iconst 3, 1) := by decide +kernel
theorem dL_isAnnulled_40 : decode cL_isAnnulled 40 = .ok (.iastore, 1) := by decide +kernel
theorem dL_isAnnulled_41 : decode cL_isAnnulled 41 = .ok (.iconst 0, 1) := by decide +kernel
theorem dL_isAnnulled_42 : decode cL_isAnnulled 42 = .ok (.istore_n 3, 1) := by decide +kernel
theorem dL_isAnnulled_43 : decode cL_isAnnulled 43 = .ok (.iconst 0, 1) := by decide +kernel
theorem dL_isAnnulled_44 : decode cL_isAnnulled 44 = .ok (.istore 4, 2) := by decide +kernel
theorem dL_isAnnulled_46 : decode cL_isAnnulled 46 = .ok (.iload 4, 2) := by decide +kernel
theorem dL_isAnnulled_48 : decode cL_isAnnulled 48 = .ok (.aload_n 1, 1) := by decide +kernel
theorem dL_isAnnulled_49 : decode cL_isAnnulled 49 = .ok (.iconst 2, 1) := by decide +kernel
theorem dL_isAnnulled_50 : decode cL_isAnnulled 50 = .ok (.iaload, 1) := by decide +kernel
theorem dL_isAnnulled_51 : decode cL_isAnnulled 51 = .ok (.if_icmp .ge 32, 3) := by decide +kernel
theorem dL_isAnnulled_54 : decode cL_isAnnulled 54 = .ok (.iload_n 3, 1) := by decide +kernel
theorem dL_isAnnulled_55 : decode cL_isAnnulled 55 = .ok (.aload_n 1, 1) := by decide +kernel
theorem dL_isAnnulled_56 : decode cL_isAnnulled 56 = .ok (.sipush 205, 3) := by decide +kernel
theorem dL_isAnnulled_59 : decode cL_isAnnulled 59 = .ok (.bipush 10, 2) := by decide +kernel
theorem dL_isAnnulled_61 : decode cL_isAnnulled 61 = .ok (.iload 4, 2) := by decide +kernel
theorem dL_isAnnulled_63 : decode cL_isAnnulled 63 = .ok (.imul, 1) := by decide +kernel
theorem dL_isAnnulled_64 : decode cL_isAnnulled 64 = .ok (.iadd, 1) := by decide +kernel
theorem dL_isAnnulled_65 : decode cL_isAnnulled 65 = .ok (.iaload, 1) := by decide +kernel
theorem dL_isAnnulled_66 : decode cL_isAnnulled 66 = .ok (.iconst 1, 1) := by decide +kernel
theorem dL_isAnnulled_67 : decode cL_isAnnulled 67 = .ok (.if_icmp .ne 7, 3) := by decide +kernel
theorem dL_isAnnulled_70 : decode cL_isAnnulled 70 = .ok (.iconst 1, 1) := by decide +kernel
theorem dL_isAnnulled_71 : decode cL_isAnnulled 71 = .ok (.goto 4, 3) := by decide +kernel
theorem dL_isAnnulled_74 : decode cL_isAnnulled 74 = .ok (.iconst 0, 1) := by decide +kernel
theorem dL_isAnnulled_75 : decode cL_isAnnulled 75 = .ok (.iadd, 1) := by decide +kernel
theorem dL_isAnnulled_76 : decode cL_isAnnulled 76 = .ok (.istore_n 3, 1) := by decide +kernel
theorem dL_isAnnulled_77 : decode cL_isAnnulled 77 = .ok (.iinc 4 1, 3) := by decide +kernel
theorem dL_isAnnulled_80 : decode cL_isAnnulled 80 = .ok (.goto (-34), 3) := by decide +kernel
theorem dL_isAnnulled_83 : decode cL_isAnnulled 83 = .ok (.aload_n 0, 1) := by decide +kernel
theorem dL_isAnnulled_84 : decode cL_isAnnulled 84 = .ok (.iload_n 2, 1) := by decide +kernel
theorem dL_isAnnulled_85 : decode cL_isAnnulled 85 = .ok (.invokestatic 162, 3) := by decide +kernel
theorem dL_isAnnulled_88 : decode cL_isAnnulled 88 = .ok (.iload_n 3, 1) := by decide +kernel
theorem dL_isAnnulled_89 : decode cL_isAnnulled 89 = .ok (.if_icmp .ne 7, 3) := by decide +kernel
theorem dL_isAnnulled_92 : decode cL_isAnnulled 92 = .ok (.iconst 1, 1) := by decide +kernel
theorem dL_isAnnulled_93 : decode cL_isAnnulled 93 = .ok (.goto 4, 3) := by decide +kernel
theorem dL_isAnnulled_96 : decode cL_isAnnulled 96 = .ok (.iconst 0, 1) := by decide +kernel
theorem dL_isAnnulled_97 : decode cL_isAnnulled 97 = .ok (.ireturn, 1) := by decide +kernel
theorem dL_isLeft_0 : decode cL_isLeft 0 = .ok (.iload_n 2, 1) := by decide +kernel
theorem dL_isLeft_1 : decode cL_isLeft 1 = .ok (.iload_n 3, 1) := by decide +kernel
theorem dL_isLeft_2 : decode cL_isLeft 2 = .ok (.if_icmp .ne 20, 3) := by decide +kernel
theorem dL_isLeft_5 : decode cL_isLeft 5 = .ok (.aload_n 0, 1) := by decide +kernel
theorem dL_isLeft_6 : decode cL_isLeft 6 = .ok (.iload_n 2, 1) := by decide +kernel
theorem dL_isLeft_7 : decode cL_isLeft 7 = .ok (.iload_n 3, 1) := by decide +kernel
theorem dL_isLeft_8 : decode cL_isLeft 8 = .ok (.invokestatic 165, 3) := by decide +kernel
theorem dL_isLeft_11 : decode cL_isLeft 11 = .ok (.ldc 26, 2) := by decide +kernel
theorem dL_isLeft_13 : decode cL_isLeft 13 = .ok (.if_icmp .ne 7, 3) := by decide +kernel
theorem dL_isLeft_16 : decode cL_isLeft 16 = .ok (.iconst 1, 1) := by decide +kernel
theorem dL_isLeft_17 : decode cL_isLeft 17 = .ok (.goto 4, 3) := by decide +kernel
theorem dL_isLeft_20 : decode cL_isLeft 20 = .ok (.iconst 0, 1) := by decide +kernel
theorem dL_isLeft_21 : decode cL_isLeft 21 = .ok (.ireturn, 1) := by decide +kernel
theorem dL_isLeft_22 : decode cL_isLeft 22 = .ok (.aload_n 1, 1) := by decide +kernel
theorem dL_isLeft_23 : decode cL_isLeft 23 = .ok (.bipush 11, 2) := by decide +kernel
theorem dL_isLeft_25 : decode cL_isLeft 25 = .ok (.iconst 2, 1) := by decide +kernel
theorem dL_isLeft_26 : decode cL_isLeft 26 = .ok (.iload_n 2, 1) := by decide +kernel
theorem dL_isLeft_27 : decode cL_isLeft 27 = .ok (.imul, 1) := by decide +kernel
theorem dL_isLeft_28 : decode cL_isLeft 28 = .ok (.iadd, 1) := by decide +kernel
theorem dL_isLeft_29 : decode cL_isLeft 29 = .ok (.iaload, 1) := by decide +kernel
theorem dL_isLeft_30 : decode cL_isLeft 30 = .ok (.istore 4, 2) := by decide +kernel
theorem dL_isLeft_32 : decode cL_isLeft 32 = .ok (.aload_n 1, 1) := by decide +kernel
theorem dL_isLeft_33 : decode cL_isLeft 33 = .ok (.bipush 10, 2) := by decide +kernel
theorem dL_isLeft_35 : decode cL_isLeft 35 = .ok (.iconst 2, 1) := by decide +kernel
theorem dL_isLeft_36 : decode cL_isLeft 36 = .ok (.iload_n 2, 1) := by decide +kernel
theorem dL_isLeft_37 : decode cL_isLeft 37 = .ok (.imul, 1) := by decide +kernel
theorem dL_isLeft_38 : decode cL_isLeft 38 = .ok (.iadd, 1) := by decide +kernel
theorem dL_isLeft_39 : decode cL_isLeft 39 = .ok (.iconst 1, 1) := by decide +kernel
theorem dL_isLeft_40 : decode cL_isLeft 40 = .ok (.iastore, 1) := by decide +kernel
theorem dL_isLeft_41 : decode cL_isLeft 41 = .ok (.aload_n 1, 1) := by decide +kernel
theorem dL_isLeft_42 : decode cL_isLeft 42 = .ok (.bipush 11, 2) := by decide +kernel
theorem dL_isLeft_44 : decode cL_isLeft 44 = .ok (.iconst 2, 1) := by decide +kernel
theorem dL_isLeft_45 : decode cL_isLeft 45 = .ok (.iload_n 2, 1) := by decide +kernel
theorem dL_isLeft_46 : decode cL_isLeft 46 = .ok (.imul, 1) := by decide +kernel
theorem dL_isLeft_47 : decode cL_isLeft 47 = .ok (.iadd, 1) := by decide +kernel
theorem dL_isLeft_48 : decode cL_isLeft 48 = .ok (.iload_n 3, 1) := by decide +kernel
theorem dL_isLeft_49 : decode cL_isLeft 49 = .ok (.iastore, 1) := by decide +kernel
theorem dL_isLeft_50 : decode cL_isLeft 50 = .ok (.aload_n 0, 1) := by decide +kernel
theorem dL_isLeft_51 : decode cL_isLeft 51 = .ok (.iload_n 2, 1) := by decide +kernel
theorem dL_isLeft_52 : decode cL_isLeft 52 = .ok (.iload_n 3, 1) := by decide +kernel
theorem dL_isLeft_53 : decode cL_isLeft 53 = .ok (.invokestatic 165, 3) := by decide +kernel
theorem dL_isLeft_56 : decode cL_isLeft 56 = .ok (.iload 4, 2) := by decide +kernel
theorem dL_isLeft_58 : decode cL_isLeft 58 = .ok (.if_icmp .ne 7, 3) := by decide +kernel
theorem dL_isLeft_61 : decode cL_isLeft 61 = .ok (.iconst 1, 1) := by decide +kernel
theorem dL_isLeft_62 : decode cL_isLeft 62 = .ok (.goto 4, 3) := by decide +kernel
theorem dL_isLeft_65 : decode cL_isLeft 65 = .ok (.iconst 0, 1) := by decide +kernel
theorem dL_isLeft_66 : decode cL_isLeft 66 = .ok (.ireturn, 1) := by decide +kernel
theorem dL_isBack_0 : decode cL_isBack 0 = .ok (.aload_n 1, 1) := by decide +kernel
theorem dL_isBack_1 : decode cL_isBack 1 = .ok (.bipush 10, 2) := by decide +kernel
theorem dL_isBack_3 : decode cL_isBack 3 = .ok (.iconst 2, 1) := by decide +kernel
theorem dL_isBack_4 : decode cL_isBack 4 = .ok (.iload_n 2, 1) := by decide +kernel
theorem dL_isBack_5 : decode cL_isBack 5 = .ok (.imul, 1) := by decide +kernel
theorem dL_isBack_6 : decode cL_isBack 6 = .ok (.iadd, 1) := by decide +kernel
theorem dL_isBack_7 : decode cL_isBack 7 = .ok (.iaload, 1) := by decide +kernel
theorem dL_isBack_8 : decode cL_isBack 8 = .ok (.ifCond .ne 19, 3) := by decide +kernel
theorem dL_isBack_11 : decode cL_isBack 11 = .ok (.aload_n 0, 1) := by decide +kernel
theorem dL_isBack_12 : decode cL_isBack 12 = .ok (.iload_n 2, 1) := by decide +kernel
theorem dL_isBack_13 : decode cL_isBack 13 = .ok (.invokestatic 167, 3) := by decide +kernel
theorem dL_isBack_16 : decode cL_isBack 16 = .ok (.ldc 26, 2) := by decide +kernel
theorem dL_isBack_18 : decode cL_isBack 18 = .ok (.if_icmp .ne 7, 3) := by decide +kernel
theorem dL_isBack_21 : decode cL_isBack 21 = .ok (.iconst 1, 1) := by decide +kernel
theorem dL_isBack_22 : decode cL_isBack 22 = .ok (.goto 4, 3) := by decide +kernel
theorem dL_isBack_25 : decode cL_isBack 25 = .ok (.iconst 0, 1) := by decide +kernel
theorem dL_isBack_26 : decode cL_isBack 26 = .ok (.ireturn, 1) := by decide +kernel
theorem dL_isBack_27 : decode cL_isBack 27 = .ok (.aload_n 1, 1) := by decide +kernel
theorem dL_isBack_28 : decode cL_isBack 28 = .ok (.bipush 11, 2) := by decide +kernel
theorem dL_isBack_30 : decode cL_isBack 30 = .ok (.iconst 2, 1) := by decide +kernel
theorem dL_isBack_31 : decode cL_isBack 31 = .ok (.iload_n 2, 1) := by decide +kernel
theorem dL_isBack_32 : decode cL_isBack 32 = .ok (.imul, 1) := by decide +kernel
theorem dL_isBack_33 : decode cL_isBack 33 = .ok (.iadd, 1) := by decide +kernel
theorem dL_isBack_34 : decode cL_isBack 34 = .ok (.iaload, 1) := by decide +kernel
theorem dL_isBack_35 : decode cL_isBack 35 = .ok (.istore_n 3, 1) := by decide +kernel
theorem dL_isBack_36 : decode cL_isBack 36 = .ok (.aload_n 1, 1) := by decide +kernel
theorem dL_isBack_37 : decode cL_isBack 37 = .ok (.bipush 10, 2) := by decide +kernel
theorem dL_isBack_39 : decode cL_isBack 39 = .ok (.iconst 2, 1) := by decide +kernel
theorem dL_isBack_40 : decode cL_isBack 40 = .ok (.iload_n 2, 1) := by decide +kernel
theorem dL_isBack_41 : decode cL_isBack 41 = .ok (.imul, 1) := by decide +kernel
theorem dL_isBack_42 : decode cL_isBack 42 = .ok (.iadd, 1) := by decide +kernel
theorem dL_isBack_43 : decode cL_isBack 43 = .ok (.iconst 0, 1) := by decide +kernel
theorem dL_isBack_44 : decode cL_isBack 44 = .ok (.iastore, 1) := by decide +kernel
theorem dL_isBack_45 : decode cL_isBack 45 = .ok (.aload_n 1, 1) := by decide +kernel
theorem dL_isBack_46 : decode cL_isBack 46 = .ok (.bipush 11, 2) := by decide +kernel
theorem dL_isBack_48 : decode cL_isBack 48 = .ok (.iconst 2, 1) := by decide +kernel
theorem dL_isBack_49 : decode cL_isBack 49 = .ok (.iload_n 2, 1) := by decide +kernel
theorem dL_isBack_50 : decode cL_isBack 50 = .ok (.imul, 1) := by decide +kernel
theorem dL_isBack_51 : decode cL_isBack 51 = .ok (.iadd, 1) := by decide +kernel
theorem dL_isBack_52 : decode cL_isBack 52 = .ok (.iconst (-1), 1) := by decide +kernel
theorem dL_isBack_53 : decode cL_isBack 53 = .ok (.iastore, 1) := by decide +kernel
theorem dL_isBack_54 : decode cL_isBack 54 = .ok (.aload_n 0, 1) := by decide +kernel
theorem dL_isBack_55 : decode cL_isBack 55 = .ok (.iload_n 2, 1) := by decide +kernel
theorem dL_isBack_56 : decode cL_isBack 56 = .ok (.invokestatic 167, 3) := by decide +kernel
theorem dL_isBack_59 : decode cL_isBack 59 = .ok (.iload_n 3, 1) := by decide +kernel
theorem dL_isBack_60 : decode cL_isBack 60 = .ok (.if_icmp .ne 7, 3) := by decide +kernel
theorem dL_isBack_63 : decode cL_isBack 63 = .ok (.iconst 1, 1) := by decide +kernel
theorem dL_isBack_64 : decode cL_isBack 64 = .ok (.goto 4, 3) := by decide +kernel
theorem dL_isBack_67 : decode cL_isBack 67 = .ok (.iconst 0, 1) := by decide +kernel
theorem dL_isBack_68 : decode cL_isBack 68 = .ok (.ireturn, 1) := by decide +kernel
theorem dL_isRevoked_0 : decode cL_isRevoked 0 = .ok (.aload_n 1, 1) := by decide +kernel
theorem dL_isRevoked_1 : decode cL_isRevoked 1 = .ok (.bipush 37, 2) := by decide +kernel
theorem dL_isRevoked_3 : decode cL_isRevoked 3 = .ok (.bipush 8, 2) := by decide +kernel
theorem dL_isRevoked_5 : decode cL_isRevoked 5 = .ok (.iload_n 2, 1) := by decide +kernel
theorem dL_isRevoked_6 : decode cL_isRevoked 6 = .ok (.imul, 1) := by decide +kernel
theorem dL_isRevoked_7 : decode cL_isRevoked 7 = .ok (.iadd, 1) := by decide +kernel
theorem dL_isRevoked_8 : decode cL_isRevoked 8 = .ok (.iaload, 1) := by decide +kernel
theorem dL_isRevoked_9 : decode cL_isRevoked 9 = .ok (.iconst 1, 1) := by decide +kernel
theorem dL_isRevoked_10 : decode cL_isRevoked 10 = .ok (.if_icmp .ne 19, 3) := by decide +kernel
theorem dL_isRevoked_13 : decode cL_isRevoked 13 = .ok (.aload_n 0, 1) := by decide +kernel
theorem dL_isRevoked_14 : decode cL_isRevoked 14 = .ok (.iload_n 2, 1) := by decide +kernel
theorem dL_isRevoked_15 : decode cL_isRevoked 15 = .ok (.invokestatic 169, 3) := by decide +kernel
theorem dL_isRevoked_18 : decode cL_isRevoked 18 = .ok (.ldc 26, 2) := by decide +kernel
theorem dL_isRevoked_20 : decode cL_isRevoked 20 = .ok (.if_icmp .ne 7, 3) := by decide +kernel
theorem dL_isRevoked_23 : decode cL_isRevoked 23 = .ok (.iconst 1, 1) := by decide +kernel
theorem dL_isRevoked_24 : decode cL_isRevoked 24 = .ok (.goto 4, 3) := by decide +kernel
theorem dL_isRevoked_27 : decode cL_isRevoked 27 = .ok (.iconst 0, 1) := by decide +kernel
theorem dL_isRevoked_28 : decode cL_isRevoked 28 = .ok (.ireturn, 1) := by decide +kernel
theorem dL_isRevoked_29 : decode cL_isRevoked 29 = .ok (.aload_n 1, 1) := by decide +kernel
theorem dL_isRevoked_30 : decode cL_isRevoked 30 = .ok (.bipush 37, 2) := by decide +kernel
theorem dL_isRevoked_32 : decode cL_isRevoked 32 = .ok (.bipush 8, 2) := by decide +kernel
theorem dL_isRevoked_34 : decode cL_isRevoked 34 = .ok (.iload_n 2, 1) := by decide +kernel
theorem dL_isRevoked_35 : decode cL_isRevoked 35 = .ok (.imul, 1) := by decide +kernel
theorem dL_isRevoked_36 : decode cL_isRevoked 36 = .ok (.iadd, 1) := by decide +kernel
theorem dL_isRevoked_37 : decode cL_isRevoked 37 = .ok (.iconst 1, 1) := by decide +kernel
theorem dL_isRevoked_38 : decode cL_isRevoked 38 = .ok (.iastore, 1) := by decide +kernel
theorem dL_isRevoked_39 : decode cL_isRevoked 39 = .ok (.iconst 0, 1) := by decide +kernel
theorem dL_isRevoked_40 : decode cL_isRevoked 40 = .ok (.istore_n 3, 1) := by decide +kernel
theorem dL_isRevoked_41 : decode cL_isRevoked 41 = .ok (.iconst 0, 1) := by decide +kernel
theorem dL_isRevoked_42 : decode cL_isRevoked 42 = .ok (.istore 4, 2) := by decide +kernel
theorem dL_isRevoked_44 : decode cL_isRevoked 44 = .ok (.iload 4, 2) := by decide +kernel
theorem dL_isRevoked_46 : decode cL_isRevoked 46 = .ok (.aload_n 1, 1) := by decide +kernel
theorem dL_isRevoked_47 : decode cL_isRevoked 47 = .ok (.iconst 1, 1) := by decide +kernel
theorem dL_isRevoked_48 : decode cL_isRevoked 48 = .ok (.iaload, 1) := by decide +kernel
theorem dL_isRevoked_49 : decode cL_isRevoked 49 = .ok (.if_icmp .ge 47, 3) := by decide +kernel
theorem dL_isRevoked_52 : decode cL_isRevoked 52 = .ok (.iload 4, 2) := by decide +kernel
theorem dL_isRevoked_54 : decode cL_isRevoked 54 = .ok (.istore 5, 2) := by decide +kernel
theorem dL_isRevoked_56 : decode cL_isRevoked 56 = .ok (.iload 5, 2) := by decide +kernel
theorem dL_isRevoked_58 : decode cL_isRevoked 58 = .ok (.ifCond .lt 32, 3) := by decide +kernel
theorem dL_isRevoked_61 : decode cL_isRevoked 61 = .ok (.iload_n 3, 1) := by decide +kernel
theorem dL_isRevoked_62 : decode cL_isRevoked 62 = .ok (.iload 5, 2) := by decide +kernel
theorem dL_isRevoked_64 : decode cL_isRevoked 64 = .ok (.iload_n 2, 1) := by decide +kernel
theorem dL_isRevoked_65 : decode cL_isRevoked 65 = .ok (.if_icmp .ne 7, 3) := by decide +kernel
theorem dL_isRevoked_68 : decode cL_isRevoked 68 = .ok (.iconst 1, 1) := by decide +kernel
theorem dL_isRevoked_69 : decode cL_isRevoked 69 = .ok (.goto 4, 3) := by decide +kernel
theorem dL_isRevoked_72 : decode cL_isRevoked 72 = .ok (.iconst 0, 1) := by decide +kernel
theorem dL_isRevoked_73 : decode cL_isRevoked 73 = .ok (.iadd, 1) := by decide +kernel
theorem dL_isRevoked_74 : decode cL_isRevoked 74 = .ok (.istore_n 3, 1) := by decide +kernel
theorem dL_isRevoked_75 : decode cL_isRevoked 75 = .ok (.aload_n 1, 1) := by decide +kernel
theorem dL_isRevoked_76 : decode cL_isRevoked 76 = .ok (.bipush 36, 2) := by decide +kernel
theorem dL_isRevoked_78 : decode cL_isRevoked 78 = .ok (.bipush 8, 2) := by decide +kernel
theorem dL_isRevoked_80 : decode cL_isRevoked 80 = .ok (.iload 5, 2) := by decide +kernel
theorem dL_isRevoked_82 : decode cL_isRevoked 82 = .ok (.imul, 1) := by decide +kernel
theorem dL_isRevoked_83 : decode cL_isRevoked 83 = .ok (.iadd, 1) := by decide +kernel
theorem dL_isRevoked_84 : decode cL_isRevoked 84 = .ok (.iaload, 1) := by decide +kernel
theorem dL_isRevoked_85 : decode cL_isRevoked 85 = .ok (.istore 5, 2) := by decide +kernel
theorem dL_isRevoked_87 : decode cL_isRevoked 87 = .ok (.goto (-31), 3) := by decide +kernel
theorem dL_isRevoked_90 : decode cL_isRevoked 90 = .ok (.iinc 4 1, 3) := by decide +kernel
theorem dL_isRevoked_93 : decode cL_isRevoked 93 = .ok (.goto (-49), 3) := by decide +kernel
theorem dL_isRevoked_96 : decode cL_isRevoked 96 = .ok (.aload_n 0, 1) := by decide +kernel
theorem dL_isRevoked_97 : decode cL_isRevoked 97 = .ok (.iload_n 2, 1) := by decide +kernel
theorem dL_isRevoked_98 : decode cL_isRevoked 98 = .ok (.invokestatic 169, 3) := by decide +kernel
theorem dL_isRevoked_101 : decode cL_isRevoked 101 = .ok (.iload_n 3, 1) := by decide +kernel
theorem dL_isRevoked_102 : decode cL_isRevoked 102 = .ok (.if_icmp .ne 7, 3) := by decide +kernel
theorem dL_isRevoked_105 : decode cL_isRevoked 105 = .ok (.iconst 1, 1) := by decide +kernel
theorem dL_isRevoked_106 : decode cL_isRevoked 106 = .ok (.goto 4, 3) := by decide +kernel
theorem dL_isRevoked_109 : decode cL_isRevoked 109 = .ok (.iconst 0, 1) := by decide +kernel
theorem dL_isRevoked_110 : decode cL_isRevoked 110 = .ok (.ireturn, 1) := by decide +kernel
theorem dL_isLowered_0 : decode cL_isLowered 0 = .ok (.aload_n 1, 1) := by decide +kernel
theorem dL_isLowered_1 : decode cL_isLowered 1 = .ok (.bipush 33, 2) := by decide +kernel
theorem dL_isLowered_3 : decode cL_isLowered 3 = .ok (.bipush 8, 2) := by decide +kernel
theorem dL_isLowered_5 : decode cL_isLowered 5 = .ok (.iload_n 2, 1) := by decide +kernel
theorem dL_isLowered_6 : decode cL_isLowered 6 = .ok (.imul, 1) := by decide +kernel
theorem dL_isLowered_7 : decode cL_isLowered 7 = .ok (.iadd, 1) := by decide +kernel
theorem dL_isLowered_8 : decode cL_isLowered 8 = .ok (.iaload, 1) := by decide +kernel
theorem dL_isLowered_9 : decode cL_isLowered 9 = .ok (.istore 4, 2) := by decide +kernel
theorem dL_isLowered_11 : decode cL_isLowered 11 = .ok (.iload_n 3, 1) := by decide +kernel
theorem dL_isLowered_12 : decode cL_isLowered 12 = .ok (.iconst 1, 1) := by decide +kernel
theorem dL_isLowered_13 : decode cL_isLowered 13 = .ok (.if_icmp .lt 9, 3) := by decide +kernel
theorem dL_isLowered_16 : decode cL_isLowered 16 = .ok (.iload_n 3, 1) := by decide +kernel
theorem dL_isLowered_17 : decode cL_isLowered 17 = .ok (.iload 4, 2) := by decide +kernel
theorem dL_isLowered_19 : decode cL_isLowered 19 = .ok (.if_icmp .le 20, 3) := by decide +kernel
theorem dL_isLowered_22 : decode cL_isLowered 22 = .ok (.aload_n 0, 1) := by decide +kernel
theorem dL_isLowered_23 : decode cL_isLowered 23 = .ok (.iload_n 2, 1) := by decide +kernel
theorem dL_isLowered_24 : decode cL_isLowered 24 = .ok (.iload_n 3, 1) := by decide +kernel
theorem dL_isLowered_25 : decode cL_isLowered 25 = .ok (.invokestatic 171, 3) := by decide +kernel
theorem dL_isLowered_28 : decode cL_isLowered 28 = .ok (.ldc 26, 2) := by decide +kernel
theorem dL_isLowered_30 : decode cL_isLowered 30 = .ok (.if_icmp .ne 7, 3) := by decide +kernel
theorem dL_isLowered_33 : decode cL_isLowered 33 = .ok (.iconst 1, 1) := by decide +kernel
theorem dL_isLowered_34 : decode cL_isLowered 34 = .ok (.goto 4, 3) := by decide +kernel
theorem dL_isLowered_37 : decode cL_isLowered 37 = .ok (.iconst 0, 1) := by decide +kernel
theorem dL_isLowered_38 : decode cL_isLowered 38 = .ok (.ireturn, 1) := by decide +kernel
theorem dL_isLowered_39 : decode cL_isLowered 39 = .ok (.aload_n 1, 1) := by decide +kernel
theorem dL_isLowered_40 : decode cL_isLowered 40 = .ok (.bipush 33, 2) := by decide +kernel
theorem dL_isLowered_42 : decode cL_isLowered 42 = .ok (.bipush 8, 2) := by decide +kernel
theorem dL_isLowered_44 : decode cL_isLowered 44 = .ok (.iload_n 2, 1) := by decide +kernel
theorem dL_isLowered_45 : decode cL_isLowered 45 = .ok (.imul, 1) := by decide +kernel
theorem dL_isLowered_46 : decode cL_isLowered 46 = .ok (.iadd, 1) := by decide +kernel
theorem dL_isLowered_47 : decode cL_isLowered 47 = .ok (.iload_n 3, 1) := by decide +kernel
theorem dL_isLowered_48 : decode cL_isLowered 48 = .ok (.iastore, 1) := by decide +kernel
theorem dL_isLowered_49 : decode cL_isLowered 49 = .ok (.aload_n 0, 1) := by decide +kernel
theorem dL_isLowered_50 : decode cL_isLowered 50 = .ok (.iload_n 2, 1) := by decide +kernel
theorem dL_isLowered_51 : decode cL_isLowered 51 = .ok (.iload_n 3, 1) := by decide +kernel
theorem dL_isLowered_52 : decode cL_isLowered 52 = .ok (.invokestatic 171, 3) := by decide +kernel
theorem dL_isLowered_55 : decode cL_isLowered 55 = .ok (.iload 4, 2) := by decide +kernel
theorem dL_isLowered_57 : decode cL_isLowered 57 = .ok (.if_icmp .ne 7, 3) := by decide +kernel
theorem dL_isLowered_60 : decode cL_isLowered 60 = .ok (.iconst 1, 1) := by decide +kernel
theorem dL_isLowered_61 : decode cL_isLowered 61 = .ok (.goto 4, 3) := by decide +kernel
theorem dL_isLowered_64 : decode cL_isLowered 64 = .ok (.iconst 0, 1) := by decide +kernel
theorem dL_isLowered_65 : decode cL_isLowered 65 = .ok (.ireturn, 1) := by decide +kernel
theorem dL_isPassed_0 : decode cL_isPassed 0 = .ok (.aload_n 1, 1) := by decide +kernel
theorem dL_isPassed_1 : decode cL_isPassed 1 = .ok (.iconst 3, 1) := by decide +kernel
theorem dL_isPassed_2 : decode cL_isPassed 2 = .ok (.iaload, 1) := by decide +kernel
theorem dL_isPassed_3 : decode cL_isPassed 3 = .ok (.iload_n 2, 1) := by decide +kernel
theorem dL_isPassed_4 : decode cL_isPassed 4 = .ok (.iadd, 1) := by decide +kernel
theorem dL_isPassed_5 : decode cL_isPassed 5 = .ok (.sipush 999, 3) := by decide +kernel
theorem dL_isPassed_8 : decode cL_isPassed 8 = .ok (.if_icmp .le 19, 3) := by decide +kernel
theorem dL_isPassed_11 : decode cL_isPassed 11 = .ok (.aload_n 0, 1) := by decide +kernel
theorem dL_isPassed_12 : decode cL_isPassed 12 = .ok (.iload_n 2, 1) := by decide +kernel
theorem dL_isPassed_13 : decode cL_isPassed 13 = .ok (.invokestatic 173, 3) := by decide +kernel
theorem dL_isPassed_16 : decode cL_isPassed 16 = .ok (.ldc 17, 2) := by decide +kernel
theorem dL_isPassed_18 : decode cL_isPassed 18 = .ok (.if_icmp .ne 7, 3) := by decide +kernel
theorem dL_isPassed_21 : decode cL_isPassed 21 = .ok (.iconst 1, 1) := by decide +kernel
theorem dL_isPassed_22 : decode cL_isPassed 22 = .ok (.goto 4, 3) := by decide +kernel
theorem dL_isPassed_25 : decode cL_isPassed 25 = .ok (.iconst 0, 1) := by decide +kernel
theorem dL_isPassed_26 : decode cL_isPassed 26 = .ok (.ireturn, 1) := by decide +kernel
theorem dL_isPassed_27 : decode cL_isPassed 27 = .ok (.aload_n 1, 1) := by decide +kernel
theorem dL_isPassed_28 : decode cL_isPassed 28 = .ok (.iconst 3, 1) := by decide +kernel
theorem dL_isPassed_29 : decode cL_isPassed 29 = .ok (.dup2, 1) := by decide +kernel
theorem dL_isPassed_30 : decode cL_isPassed 30 = .ok (.iaload, 1) := by decide +kernel
theorem dL_isPassed_31 : decode cL_isPassed 31 = .ok (.iload_n 2, 1) := by decide +kernel
theorem dL_isPassed_32 : decode cL_isPassed 32 = .ok (.iadd, 1) := by decide +kernel
theorem dL_isPassed_33 : decode cL_isPassed 33 = .ok (.iastore, 1) := by decide +kernel
theorem dL_isPassed_34 : decode cL_isPassed 34 = .ok (.aload_n 0, 1) := by decide +kernel
theorem dL_isPassed_35 : decode cL_isPassed 35 = .ok (.iload_n 2, 1) := by decide +kernel
theorem dL_isPassed_36 : decode cL_isPassed 36 = .ok (.invokestatic 173, 3) := by decide +kernel
theorem dL_isPassed_39 : decode cL_isPassed 39 = .ok (.aload_n 1, 1) := by decide +kernel
theorem dL_isPassed_40 : decode cL_isPassed 40 = .ok (.iconst 3, 1) := by decide +kernel
theorem dL_isPassed_41 : decode cL_isPassed 41 = .ok (.iaload, 1) := by decide +kernel
theorem dL_isPassed_42 : decode cL_isPassed 42 = .ok (.if_icmp .ne 17, 3) := by decide +kernel
theorem dL_isPassed_45 : decode cL_isPassed 45 = .ok (.aload_n 0, 1) := by decide +kernel
theorem dL_isPassed_46 : decode cL_isPassed 46 = .ok (.invokevirtual 175, 3) := by decide +kernel
theorem dL_isPassed_49 : decode cL_isPassed 49 = .ok (.aload_n 1, 1) := by decide +kernel
theorem dL_isPassed_50 : decode cL_isPassed 50 = .ok (.iconst 3, 1) := by decide +kernel
theorem dL_isPassed_51 : decode cL_isPassed 51 = .ok (.iaload, 1) := by decide +kernel
theorem dL_isPassed_52 : decode cL_isPassed 52 = .ok (.if_icmp .ne 7, 3) := by decide +kernel
theorem dL_isPassed_55 : decode cL_isPassed 55 = .ok (.iconst 1, 1) := by decide +kernel
theorem dL_isPassed_56 : decode cL_isPassed 56 = .ok (.goto 4, 3) := by decide +kernel
theorem dL_isPassed_59 : decode cL_isPassed 59 = .ok (.iconst 0, 1) := by decide +kernel
theorem dL_isPassed_60 : decode cL_isPassed 60 = .ok (.ireturn, 1) := by decide +kernel
theorem dL_isDone_0 : decode cL_isDone 0 = .ok (.aload_n 2, 1) := by decide +kernel
theorem dL_isDone_1 : decode cL_isDone 1 = .ok (.iload_n 3, 1) := by decide +kernel
theorem dL_isDone_2 : decode cL_isDone 2 = .ok (.iconst 1, 1) := by decide +kernel
theorem dL_isDone_3 : decode cL_isDone 3 = .ok (.iadd, 1) := by decide +kernel
theorem dL_isDone_4 : decode cL_isDone 4 = .ok (.aload_n 1, 1) := by decide +kernel
theorem dL_isDone_5 : decode cL_isDone 5 = .ok (.iconst 1, 1) := by decide +kernel
theorem dL_isDone_6 : decode cL_isDone 6 = .ok (.iaload, 1) := by decide +kernel
theorem dL_isDone_7 : decode cL_isDone 7 = .ok (.invokestatic 102, 3) := by decide +kernel
theorem dL_isDone_10 : decode cL_isDone 10 = .ok (.istore 4, 2) := by decide +kernel
theorem dL_isDone_12 : decode cL_isDone 12 = .ok (.aload_n 2, 1) := by decide +kernel
theorem dL_isDone_13 : decode cL_isDone 13 = .ok (.iload_n 3, 1) := by decide +kernel
theorem dL_isDone_14 : decode cL_isDone 14 = .ok (.iconst 2, 1) := by decide +kernel
theorem dL_isDone_15 : decode cL_isDone 15 = .ok (.iadd, 1) := by decide +kernel
theorem dL_isDone_16 : decode cL_isDone 16 = .ok (.aload_n 1, 1) := by decide +kernel
theorem dL_isDone_17 : decode cL_isDone 17 = .ok (.iconst 0, 1) := by decide +kernel
theorem dL_isDone_18 : decode cL_isDone 18 = .ok (.iaload, 1) := by decide +kernel
theorem dL_isDone_19 : decode cL_isDone 19 = .ok (.invokestatic 102, 3) := by decide +kernel
theorem dL_isDone_22 : decode cL_isDone 22 = .ok (.istore 5, 2) := by decide +kernel
theorem dL_isDone_24 : decode cL_isDone 24 = .ok (.aload_n 2, 1) := by decide +kernel
theorem dL_isDone_25 : decode cL_isDone 25 = .ok (.iload_n 3, 1) := by decide +kernel
theorem dL_isDone_26 : decode cL_isDone 26 = .ok (.bipush 12, 2) := by decide +kernel
theorem dL_isDone_28 : decode cL_isDone 28 = .ok (.invokestatic 102, 3) := by decide +kernel
theorem dL_isDone_31 : decode cL_isDone 31 = .ok (.tableswitch 143 0 6 #[41, 51, 61, 69, 96, 118, 126], 41) := by decide +kernel
theorem dL_isDone_72 : decode cL_isDone 72 = .ok (.aload_n 0, 1) := by decide +kernel
theorem dL_isDone_73 : decode cL_isDone 73 = .ok (.aload_n 1, 1) := by decide +kernel
theorem dL_isDone_74 : decode cL_isDone 74 = .ok (.aload_n 2, 1) := by decide +kernel
theorem dL_isDone_75 : decode cL_isDone 75 = .ok (.iload_n 3, 1) := by decide +kernel
theorem dL_isDone_76 : decode cL_isDone 76 = .ok (.iconst 1, 1) := by decide +kernel
theorem dL_isDone_77 : decode cL_isDone 77 = .ok (.iadd, 1) := by decide +kernel
theorem dL_isDone_78 : decode cL_isDone 78 = .ok (.invokestatic 125, 3) := by decide +kernel
theorem dL_isDone_81 : decode cL_isDone 81 = .ok (.ireturn, 1) := by decide +kernel
theorem dL_isDone_82 : decode cL_isDone 82 = .ok (.aload_n 0, 1) := by decide +kernel
theorem dL_isDone_83 : decode cL_isDone 83 = .ok (.aload_n 1, 1) := by decide +kernel
theorem dL_isDone_84 : decode cL_isDone 84 = .ok (.aload_n 2, 1) := by decide +kernel
theorem dL_isDone_85 : decode cL_isDone 85 = .ok (.iload_n 3, 1) := by decide +kernel
theorem dL_isDone_86 : decode cL_isDone 86 = .ok (.iconst 1, 1) := by decide +kernel
theorem dL_isDone_87 : decode cL_isDone 87 = .ok (.iadd, 1) := by decide +kernel
theorem dL_isDone_88 : decode cL_isDone 88 = .ok (.invokestatic 129, 3) := by decide +kernel
theorem dL_isDone_91 : decode cL_isDone 91 = .ok (.ireturn, 1) := by decide +kernel
theorem dL_isDone_92 : decode cL_isDone 92 = .ok (.aload_n 0, 1) := by decide +kernel
theorem dL_isDone_93 : decode cL_isDone 93 = .ok (.aload_n 1, 1) := by decide +kernel
theorem dL_isDone_94 : decode cL_isDone 94 = .ok (.iload 4, 2) := by decide +kernel
theorem dL_isDone_96 : decode cL_isDone 96 = .ok (.invokestatic 178, 3) := by decide +kernel
theorem dL_isDone_99 : decode cL_isDone 99 = .ok (.ireturn, 1) := by decide +kernel
theorem dL_isDone_100 : decode cL_isDone 100 = .ok (.aload_n 0, 1) := by decide +kernel
theorem dL_isDone_101 : decode cL_isDone 101 = .ok (.aload_n 1, 1) := by decide +kernel
theorem dL_isDone_102 : decode cL_isDone 102 = .ok (.iload 4, 2) := by decide +kernel
theorem dL_isDone_104 : decode cL_isDone 104 = .ok (.aload_n 2, 1) := by decide +kernel
theorem dL_isDone_105 : decode cL_isDone 105 = .ok (.iload_n 3, 1) := by decide +kernel
theorem dL_isDone_106 : decode cL_isDone 106 = .ok (.iconst 3, 1) := by decide +kernel
theorem dL_isDone_107 : decode cL_isDone 107 = .ok (.iadd, 1) := by decide +kernel
theorem dL_isDone_108 : decode cL_isDone 108 = .ok (.aload_n 1, 1) := by decide +kernel
theorem dL_isDone_109 : decode cL_isDone 109 = .ok (.bipush 33, 2) := by decide +kernel
theorem dL_isDone_111 : decode cL_isDone 111 = .ok (.bipush 8, 2) := by decide +kernel
theorem dL_isDone_113 : decode cL_isDone 113 = .ok (.iload 4, 2) := by decide +kernel
theorem dL_isDone_115 : decode cL_isDone 115 = .ok (.imul, 1) := by decide +kernel
theorem dL_isDone_116 : decode cL_isDone 116 = .ok (.iadd, 1) := by decide +kernel
theorem dL_isDone_117 : decode cL_isDone 117 = .ok (.iaload, 1) := by decide +kernel
theorem dL_isDone_118 : decode cL_isDone 118 = .ok (.iconst 2, 1) := by decide +kernel
theorem dL_isDone_119 : decode cL_isDone 119 = .ok (.iadd, 1) := by decide +kernel
theorem dL_isDone_120 : decode cL_isDone 120 = .ok (.invokestatic 102, 3) := by decide +kernel
theorem dL_isDone_123 : decode cL_isDone 123 = .ok (.invokestatic 182, 3) := by decide +kernel
theorem dL_isDone_126 : decode cL_isDone 126 = .ok (.ireturn, 1) := by decide +kernel
theorem dL_isDone_127 : decode cL_isDone 127 = .ok (.aload_n 0, 1) := by decide +kernel
theorem dL_isDone_128 : decode cL_isDone 128 = .ok (.aload_n 1, 1) := by decide +kernel
theorem dL_isDone_129 : decode cL_isDone 129 = .ok (.iload 5, 2) := by decide +kernel
theorem dL_isDone_131 : decode cL_isDone 131 = .ok (.aload_n 2, 1) := by decide +kernel
theorem dL_isDone_132 : decode cL_isDone 132 = .ok (.iload_n 3, 1) := by decide +kernel
theorem dL_isDone_133 : decode cL_isDone 133 = .ok (.iconst 3, 1) := by decide +kernel
theorem dL_isDone_134 : decode cL_isDone 134 = .ok (.iadd, 1) := by decide +kernel
theorem dL_isDone_135 : decode cL_isDone 135 = .ok (.aload_n 1, 1) := by decide +kernel
theorem dL_isDone_136 : decode cL_isDone 136 = .ok (.iconst 0, 1) := by decide +kernel
theorem dL_isDone_137 : decode cL_isDone 137 = .ok (.iaload, 1) := by decide +kernel
theorem dL_isDone_138 : decode cL_isDone 138 = .ok (.iconst 1, 1) := by decide +kernel
theorem dL_isDone_139 : decode cL_isDone 139 = .ok (.iadd, 1) := by decide +kernel
theorem dL_isDone_140 : decode cL_isDone 140 = .ok (.invokestatic 102, 3) := by decide +kernel
theorem dL_isDone_143 : decode cL_isDone 143 = .ok (.iconst 1, 1) := by decide +kernel
theorem dL_isDone_144 : decode cL_isDone 144 = .ok (.isub, 1) := by decide +kernel
theorem dL_isDone_145 : decode cL_isDone 145 = .ok (.invokestatic 186, 3) := by decide +kernel
theorem dL_isDone_148 : decode cL_isDone 148 = .ok (.ireturn, 1) := by decide +kernel
theorem dL_isDone_149 : decode cL_isDone 149 = .ok (.aload_n 0, 1) := by decide +kernel
theorem dL_isDone_150 : decode cL_isDone 150 = .ok (.aload_n 1, 1) := by decide +kernel
theorem dL_isDone_151 : decode cL_isDone 151 = .ok (.iload 5, 2) := by decide +kernel
theorem dL_isDone_153 : decode cL_isDone 153 = .ok (.invokestatic 189, 3) := by decide +kernel
theorem dL_isDone_156 : decode cL_isDone 156 = .ok (.ireturn, 1) := by decide +kernel
theorem dL_isDone_157 : decode cL_isDone 157 = .ok (.aload_n 0, 1) := by decide +kernel
theorem dL_isDone_158 : decode cL_isDone 158 = .ok (.aload_n 1, 1) := by decide +kernel
theorem dL_isDone_159 : decode cL_isDone 159 = .ok (.iconst 1, 1) := by decide +kernel
theorem dL_isDone_160 : decode cL_isDone 160 = .ok (.aload_n 2, 1) := by decide +kernel
theorem dL_isDone_161 : decode cL_isDone 161 = .ok (.iload_n 3, 1) := by decide +kernel
theorem dL_isDone_162 : decode cL_isDone 162 = .ok (.iconst 3, 1) := by decide +kernel
theorem dL_isDone_163 : decode cL_isDone 163 = .ok (.iadd, 1) := by decide +kernel
theorem dL_isDone_164 : decode cL_isDone 164 = .ok (.bipush 9, 2) := by decide +kernel
theorem dL_isDone_166 : decode cL_isDone 166 = .ok (.invokestatic 102, 3) := by decide +kernel
theorem dL_isDone_169 : decode cL_isDone 169 = .ok (.iadd, 1) := by decide +kernel
theorem dL_isDone_170 : decode cL_isDone 170 = .ok (.invokestatic 192, 3) := by decide +kernel
theorem dL_isDone_173 : decode cL_isDone 173 = .ok (.ireturn, 1) := by decide +kernel
theorem dL_isDone_174 : decode cL_isDone 174 = .ok (.aload_n 0, 1) := by decide +kernel
theorem dL_isDone_175 : decode cL_isDone 175 = .ok (.aload_n 1, 1) := by decide +kernel
theorem dL_isDone_176 : decode cL_isDone 176 = .ok (.aload_n 2, 1) := by decide +kernel
theorem dL_isDone_177 : decode cL_isDone 177 = .ok (.iload_n 3, 1) := by decide +kernel
theorem dL_isDone_178 : decode cL_isDone 178 = .ok (.iconst 1, 1) := by decide +kernel
theorem dL_isDone_179 : decode cL_isDone 179 = .ok (.iadd, 1) := by decide +kernel
theorem dL_isDone_180 : decode cL_isDone 180 = .ok (.invokestatic 195, 3) := by decide +kernel
theorem dL_isDone_183 : decode cL_isDone 183 = .ok (.ireturn, 1) := by decide +kernel
theorem dL_isTold_0 : decode cL_isTold 0 = .ok (.sipush 200, 3) := by decide +kernel
theorem dL_isTold_3 : decode cL_isTold 3 = .ok (.bipush 10, 2) := by decide +kernel
theorem dL_isTold_5 : decode cL_isTold 5 = .ok (.iload_n 2, 1) := by decide +kernel
theorem dL_isTold_6 : decode cL_isTold 6 = .ok (.imul, 1) := by decide +kernel
theorem dL_isTold_7 : decode cL_isTold 7 = .ok (.iadd, 1) := by decide +kernel
theorem dL_isTold_8 : decode cL_isTold 8 = .ok (.istore_n 3, 1) := by decide +kernel
theorem dL_isTold_9 : decode cL_isTold 9 = .ok (.aload_n 1, 1) := by decide +kernel
theorem dL_isTold_10 : decode cL_isTold 10 = .ok (.iload_n 3, 1) := by decide +kernel
theorem dL_isTold_11 : decode cL_isTold 11 = .ok (.iconst 5, 1) := by decide +kernel
theorem dL_isTold_12 : decode cL_isTold 12 = .ok (.iadd, 1) := by decide +kernel
theorem dL_isTold_13 : decode cL_isTold 13 = .ok (.iaload, 1) := by decide +kernel
theorem dL_isTold_14 : decode cL_isTold 14 = .ok (.istore 4, 2) := by decide +kernel
theorem dL_isTold_16 : decode cL_isTold 16 = .ok (.iload 4, 2) := by decide +kernel
theorem dL_isTold_18 : decode cL_isTold 18 = .ok (.ifCond .ne 8, 3) := by decide +kernel
theorem dL_isTold_21 : decode cL_isTold 21 = .ok (.bipush 115, 2) := by decide +kernel
theorem dL_isTold_23 : decode cL_isTold 23 = .ok (.goto 27, 3) := by decide +kernel
theorem dL_isTold_26 : decode cL_isTold 26 = .ok (.iload 4, 2) := by decide +kernel
theorem dL_isTold_28 : decode cL_isTold 28 = .ok (.iconst 1, 1) := by decide +kernel
theorem dL_isTold_29 : decode cL_isTold 29 = .ok (.if_icmp .ne 8, 3) := by decide +kernel
theorem dL_isTold_32 : decode cL_isTold 32 = .ok (.bipush 119, 2) := by decide +kernel
theorem dL_isTold_34 : decode cL_isTold 34 = .ok (.goto 16, 3) := by decide +kernel
theorem dL_isTold_37 : decode cL_isTold 37 = .ok (.iload 4, 2) := by decide +kernel
theorem dL_isTold_39 : decode cL_isTold 39 = .ok (.iconst 2, 1) := by decide +kernel
theorem dL_isTold_40 : decode cL_isTold 40 = .ok (.if_icmp .ne 8, 3) := by decide +kernel
theorem dL_isTold_43 : decode cL_isTold 43 = .ok (.bipush 114, 2) := by decide +kernel
theorem dL_isTold_45 : decode cL_isTold 45 = .ok (.goto 5, 3) := by decide +kernel
theorem dL_isTold_48 : decode cL_isTold 48 = .ok (.bipush 110, 2) := by decide +kernel
theorem dL_isTold_50 : decode cL_isTold 50 = .ok (.istore 5, 2) := by decide +kernel
theorem dL_isTold_52 : decode cL_isTold 52 = .ok (.aload_n 1, 1) := by decide +kernel
theorem dL_isTold_53 : decode cL_isTold 53 = .ok (.iload_n 3, 1) := by decide +kernel
theorem dL_isTold_54 : decode cL_isTold 54 = .ok (.bipush 6, 2) := by decide +kernel
theorem dL_isTold_56 : decode cL_isTold 56 = .ok (.iadd, 1) := by decide +kernel
theorem dL_isTold_57 : decode cL_isTold 57 = .ok (.iaload, 1) := by decide +kernel
theorem dL_isTold_58 : decode cL_isTold 58 = .ok (.istore 6, 2) := by decide +kernel
theorem dL_isTold_60 : decode cL_isTold 60 = .ok (.iload 6, 2) := by decide +kernel
theorem dL_isTold_62 : decode cL_isTold 62 = .ok (.ifCond .ne 8, 3) := by decide +kernel
theorem dL_isTold_65 : decode cL_isTold 65 = .ok (.bipush 107, 2) := by decide +kernel
theorem dL_isTold_67 : decode cL_isTold 67 = .ok (.goto 38, 3) := by decide +kernel
theorem dL_isTold_70 : decode cL_isTold 70 = .ok (.iload 6, 2) := by decide +kernel
theorem dL_isTold_72 : decode cL_isTold 72 = .ok (.iconst 1, 1) := by decide +kernel
theorem dL_isTold_73 : decode cL_isTold 73 = .ok (.if_icmp .ne 8, 3) := by decide +kernel
theorem dL_isTold_76 : decode cL_isTold 76 = .ok (.bipush 100, 2) := by decide +kernel
theorem dL_isTold_78 : decode cL_isTold 78 = .ok (.goto 27, 3) := by decide +kernel
theorem dL_isTold_81 : decode cL_isTold 81 = .ok (.iload 6, 2) := by decide +kernel
theorem dL_isTold_83 : decode cL_isTold 83 = .ok (.iconst 2, 1) := by decide +kernel
theorem dL_isTold_84 : decode cL_isTold 84 = .ok (.if_icmp .ne 8, 3) := by decide +kernel
theorem dL_isTold_87 : decode cL_isTold 87 = .ok (.bipush 118, 2) := by decide +kernel
theorem dL_isTold_89 : decode cL_isTold 89 = .ok (.goto 16, 3) := by decide +kernel
theorem dL_isTold_92 : decode cL_isTold 92 = .ok (.iload 6, 2) := by decide +kernel
theorem dL_isTold_94 : decode cL_isTold 94 = .ok (.iconst 3, 1) := by decide +kernel
theorem dL_isTold_95 : decode cL_isTold 95 = .ok (.if_icmp .ne 8, 3) := by decide +kernel
theorem dL_isTold_98 : decode cL_isTold 98 = .ok (.bipush 108, 2) := by decide +kernel
theorem dL_isTold_100 : decode cL_isTold 100 = .ok (.goto 5, 3) := by decide +kernel
theorem dL_isTold_103 : decode cL_isTold 103 = .ok (.bipush 104, 2) := by decide +kernel
theorem dL_isTold_105 : decode cL_isTold 105 = .ok (.istore 7, 2) := by decide +kernel
theorem dL_isTold_107 : decode cL_isTold 107 = .ok (.iload 4, 2) := by decide +kernel
theorem dL_isTold_109 : decode cL_isTold 109 = .ok (.ifCond .eq 12, 3) := by decide +kernel
theorem dL_isTold_112 : decode cL_isTold 112 = .ok (.aload_n 1, 1) := by decide +kernel
theorem dL_isTold_113 : decode cL_isTold 113 = .ok (.iload_n 3, 1) := by decide +kernel
theorem dL_isTold_114 : decode cL_isTold 114 = .ok (.bipush 7, 2) := by decide +kernel
theorem dL_isTold_116 : decode cL_isTold 116 = .ok (.iadd, 1) := by decide +kernel
theorem dL_isTold_117 : decode cL_isTold 117 = .ok (.iaload, 1) := by decide +kernel
theorem dL_isTold_118 : decode cL_isTold 118 = .ok (.ifCond .ge 7, 3) := by decide +kernel
theorem dL_isTold_121 : decode cL_isTold 121 = .ok (.iconst 1, 1) := by decide +kernel
theorem dL_isTold_122 : decode cL_isTold 122 = .ok (.goto 4, 3) := by decide +kernel
theorem dL_isTold_125 : decode cL_isTold 125 = .ok (.iconst 0, 1) := by decide +kernel
theorem dL_isTold_126 : decode cL_isTold 126 = .ok (.istore 8, 2) := by decide +kernel
theorem dL_isTold_128 : decode cL_isTold 128 = .ok (.aload_n 0, 1) := by decide +kernel
theorem dL_isTold_129 : decode cL_isTold 129 = .ok (.iload_n 2, 1) := by decide +kernel
theorem dL_isTold_130 : decode cL_isTold 130 = .ok (.invokestatic 198, 3) := by decide +kernel
theorem dL_isTold_133 : decode cL_isTold 133 = .ok (.iload 5, 2) := by decide +kernel
theorem dL_isTold_135 : decode cL_isTold 135 = .ok (.if_icmp .ne 64, 3) := by decide +kernel
theorem dL_isTold_138 : decode cL_isTold 138 = .ok (.aload_n 0, 1) := by decide +kernel
theorem dL_isTold_139 : decode cL_isTold 139 = .ok (.iload_n 2, 1) := by decide +kernel
theorem dL_isTold_140 : decode cL_isTold 140 = .ok (.invokestatic 200, 3) := by decide +kernel
theorem dL_isTold_143 : decode cL_isTold 143 = .ok (.aload_n 1, 1) := by decide +kernel
theorem dL_isTold_144 : decode cL_isTold 144 = .ok (.iload_n 3, 1) := by decide +kernel
theorem dL_isTold_145 : decode cL_isTold 145 = .ok (.iconst 4, 1) := by decide +kernel
theorem dL_isTold_146 : decode cL_isTold 146 = .ok (.iadd, 1) := by decide +kernel
theorem dL_isTold_147 : decode cL_isTold 147 = .ok (.iaload, 1) := by decide +kernel
theorem dL_isTold_148 : decode cL_isTold 148 = .ok (.if_icmp .ne 51, 3) := by decide +kernel
theorem dL_isTold_151 : decode cL_isTold 151 = .ok (.aload_n 0, 1) := by decide +kernel
theorem dL_isTold_152 : decode cL_isTold 152 = .ok (.iload_n 2, 1) := by decide +kernel
theorem dL_isTold_153 : decode cL_isTold 153 = .ok (.invokestatic 202, 3) := by decide +kernel
theorem dL_isTold_156 : decode cL_isTold 156 = .ok (.iload 4, 2) := by decide +kernel
theorem dL_isTold_158 : decode cL_isTold 158 = .ok (.ifCond .eq 9, 3) := by decide +kernel
theorem dL_isTold_161 : decode cL_isTold 161 = .ok (.iload 4, 2) := by decide +kernel
theorem dL_isTold_163 : decode cL_isTold 163 = .ok (.iconst 2, 1) := by decide +kernel
theorem dL_isTold_164 : decode cL_isTold 164 = .ok (.if_icmp .ne 7, 3) := by decide +kernel
theorem dL_isTold_167 : decode cL_isTold 167 = .ok (.iconst 1, 1) := by decide +kernel
theorem dL_isTold_168 : decode cL_isTold 168 = .ok (.goto 4, 3) := by decide +kernel
theorem dL_isTold_171 : decode cL_isTold 171 = .ok (.iconst 0, 1) := by decide +kernel
theorem dL_isTold_172 : decode cL_isTold 172 = .ok (.if_icmp .ne 27, 3) := by decide +kernel
theorem dL_isTold_175 : decode cL_isTold 175 = .ok (.aload_n 0, 1) := by decide +kernel
theorem dL_isTold_176 : decode cL_isTold 176 = .ok (.iload_n 2, 1) := by decide +kernel
theorem dL_isTold_177 : decode cL_isTold 177 = .ok (.invokestatic 204, 3) := by decide +kernel
theorem dL_isTold_180 : decode cL_isTold 180 = .ok (.iload 4, 2) := by decide +kernel
theorem dL_isTold_182 : decode cL_isTold 182 = .ok (.ifCond .ne 8, 3) := by decide +kernel
theorem dL_isTold_185 : decode cL_isTold 185 = .ok (.ldc 26, 2) := by decide +kernel
theorem dL_isTold_187 : decode cL_isTold 187 = .ok (.goto 5, 3) := by decide +kernel
theorem dL_isTold_190 : decode cL_isTold 190 = .ok (.iload 7, 2) := by decide +kernel
theorem dL_isTold_192 : decode cL_isTold 192 = .ok (.if_icmp .ne 7, 3) := by decide +kernel
theorem dL_isTold_195 : decode cL_isTold 195 = .ok (.iconst 1, 1) := by decide +kernel
theorem dL_isTold_196 : decode cL_isTold 196 = .ok (.goto 4, 3) := by decide +kernel
theorem dL_isTold_199 : decode cL_isTold 199 = .ok (.iconst 0, 1) := by decide +kernel
theorem dL_isTold_200 : decode cL_isTold 200 = .ok (.istore 9, 2) := by decide +kernel
theorem dL_isTold_202 : decode cL_isTold 202 = .ok (.iload 9, 2) := by decide +kernel
theorem dL_isTold_204 : decode cL_isTold 204 = .ok (.ifCond .eq 55, 3) := by decide +kernel
theorem dL_isTold_207 : decode cL_isTold 207 = .ok (.aload_n 0, 1) := by decide +kernel
theorem dL_isTold_208 : decode cL_isTold 208 = .ok (.iload_n 2, 1) := by decide +kernel
theorem dL_isTold_209 : decode cL_isTold 209 = .ok (.invokestatic 206, 3) := by decide +kernel
theorem dL_isTold_212 : decode cL_isTold 212 = .ok (.iload 8, 2) := by decide +kernel
theorem dL_isTold_214 : decode cL_isTold 214 = .ok (.ifCond .eq 8, 3) := by decide +kernel
theorem dL_isTold_217 : decode cL_isTold 217 = .ok (.ldc 26, 2) := by decide +kernel
theorem dL_isTold_219 : decode cL_isTold 219 = .ok (.goto 9, 3) := by decide +kernel
theorem dL_isTold_222 : decode cL_isTold 222 = .ok (.aload_n 1, 1) := by decide +kernel
theorem dL_isTold_223 : decode cL_isTold 223 = .ok (.iload_n 3, 1) := by decide +kernel
theorem dL_isTold_224 : decode cL_isTold 224 = .ok (.bipush 7, 2) := by decide +kernel
theorem dL_isTold_226 : decode cL_isTold 226 = .ok (.iadd, 1) := by decide +kernel
theorem dL_isTold_227 : decode cL_isTold 227 = .ok (.iaload, 1) := by decide +kernel
theorem dL_isTold_228 : decode cL_isTold 228 = .ok (.if_icmp .ne 31, 3) := by decide +kernel
theorem dL_isTold_231 : decode cL_isTold 231 = .ok (.aload_n 0, 1) := by decide +kernel
theorem dL_isTold_232 : decode cL_isTold 232 = .ok (.iload_n 2, 1) := by decide +kernel
theorem dL_isTold_233 : decode cL_isTold 233 = .ok (.invokestatic 208, 3) := by decide +kernel
theorem dL_isTold_236 : decode cL_isTold 236 = .ok (.iload 8, 2) := by decide +kernel
theorem dL_isTold_238 : decode cL_isTold 238 = .ok (.ifCond .eq 8, 3) := by decide +kernel
theorem dL_isTold_241 : decode cL_isTold 241 = .ok (.ldc 26, 2) := by decide +kernel
theorem dL_isTold_243 : decode cL_isTold 243 = .ok (.goto 9, 3) := by decide +kernel
theorem dL_isTold_246 : decode cL_isTold 246 = .ok (.aload_n 1, 1) := by decide +kernel
theorem dL_isTold_247 : decode cL_isTold 247 = .ok (.iload_n 3, 1) := by decide +kernel
theorem dL_isTold_248 : decode cL_isTold 248 = .ok (.bipush 8, 2) := by decide +kernel
theorem dL_isTold_250 : decode cL_isTold 250 = .ok (.iadd, 1) := by decide +kernel
theorem dL_isTold_251 : decode cL_isTold 251 = .ok (.iaload, 1) := by decide +kernel
theorem dL_isTold_252 : decode cL_isTold 252 = .ok (.if_icmp .ne 7, 3) := by decide +kernel
theorem dL_isTold_255 : decode cL_isTold 255 = .ok (.iconst 1, 1) := by decide +kernel
theorem dL_isTold_256 : decode cL_isTold 256 = .ok (.goto 4, 3) := by decide +kernel
theorem dL_isTold_259 : decode cL_isTold 259 = .ok (.iconst 0, 1) := by decide +kernel
theorem dL_isTold_260 : decode cL_isTold 260 = .ok (.ireturn, 1) := by decide +kernel
theorem dL_areFigures_0 : decode cL_areFigures 0 = .ok (.lconst 0, 1) := by decide +kernel
theorem dL_areFigures_1 : decode cL_areFigures 1 = .ok (.lstore_n 2, 1) := by decide +kernel
theorem dL_areFigures_2 : decode cL_areFigures 2 = .ok (.iconst 0, 1) := by decide +kernel
theorem dL_areFigures_3 : decode cL_areFigures 3 = .ok (.istore 4, 2) := by decide +kernel
theorem dL_areFigures_5 : decode cL_areFigures 5 = .ok (.iconst 0, 1) := by decide +kernel
theorem dL_areFigures_6 : decode cL_areFigures 6 = .ok (.istore 5, 2) := by decide +kernel
theorem dL_areFigures_8 : decode cL_areFigures 8 = .ok (.iload 5, 2) := by decide +kernel
theorem dL_areFigures_10 : decode cL_areFigures 10 = .ok (.aload_n 1, 1) := by decide +kernel
theorem dL_areFigures_11 : decode cL_areFigures 11 = .ok (.iconst 2, 1) := by decide +kernel
theorem dL_areFigures_12 : decode cL_areFigures 12 = .ok (.iaload, 1) := by decide +kernel
theorem dL_areFigures_13 : decode cL_areFigures 13 = .ok (.if_icmp .ge 71, 3) := by decide +kernel
theorem dL_areFigures_16 : decode cL_areFigures 16 = .ok (.aload_n 1, 1) := by decide +kernel
theorem dL_areFigures_17 : decode cL_areFigures 17 = .ok (.sipush 205, 3) := by decide +kernel
theorem dL_areFigures_20 : decode cL_areFigures 20 = .ok (.bipush 10, 2) := by decide +kernel
theorem dL_areFigures_22 : decode cL_areFigures 22 = .ok (.iload 5, 2) := by decide +kernel
theorem dL_areFigures_24 : decode cL_areFigures 24 = .ok (.imul, 1) := by decide +kernel
theorem dL_areFigures_25 : decode cL_areFigures 25 = .ok (.iadd, 1) := by decide +kernel
theorem dL_areFigures_26 : decode cL_areFigures 26 = .ok (.iaload, 1) := by decide +kernel
theorem dL_areFigures_27 : decode cL_areFigures 27 = .ok (.iconst 2, 1) := by decide +kernel
theorem dL_areFigures_28 : decode cL_areFigures 28 = .ok (.irem, 1) := by decide +kernel
theorem dL_areFigures_29 : decode cL_areFigures 29 = .ok (.ifCond .ne 7, 3) := by decide +kernel
theorem dL_areFigures_32 : decode cL_areFigures 32 = .ok (.iconst 1, 1) := by decide +kernel
theorem dL_areFigures_33 : decode cL_areFigures 33 = .ok (.goto 4, 3) := by decide +kernel
theorem dL_areFigures_36 : decode cL_areFigures 36 = .ok (.iconst 0, 1) := by decide +kernel
theorem dL_areFigures_37 : decode cL_areFigures 37 = .ok (.istore 6, 2) := by decide +kernel
theorem dL_areFigures_39 : decode cL_areFigures 39 = .ok (.lload_n 2, 1) := by decide +kernel
theorem dL_areFigures_40 : decode cL_areFigures 40 = .ok (.iload 6, 2) := by decide +kernel
theorem dL_areFigures_42 : decode cL_areFigures 42 = .ok (.ifCond .eq 18, 3) := by decide +kernel
theorem dL_areFigures_45 : decode cL_areFigures 45 = .ok (.aload_n 1, 1) := by decide +kernel
theorem dL_areFigures_46 : decode cL_areFigures 46 = .ok (.sipush 201, 3) := by decide +kernel
theorem dL_areFigures_49 : decode cL_areFigures 49 = .ok (.bipush 10, 2) := by decide +kernel
theorem dL_areFigures_51 : decode cL_areFigures 51 = .ok (.iload 5, 2) := by decide +kernel
theorem dL_areFigures_53 : decode cL_areFigures 53 = .ok (.imul, 1) := by decide +kernel
theorem dL_areFigures_54 : decode cL_areFigures 54 = .ok (.iadd, 1) := by decide +kernel
theorem dL_areFigures_55 : decode cL_areFigures 55 = .ok (.iaload, 1) := by decide +kernel
theorem dL_areFigures_56 : decode cL_areFigures 56 = .ok (.i2l, 1) := by decide +kernel
theorem dL_areFigures_57 : decode cL_areFigures 57 = .ok (.goto 4, 3) := by decide +kernel
theorem dL_areFigures_60 : decode cL_areFigures 60 = .ok (.lconst 0, 1) := by decide +kernel
theorem dL_areFigures_61 : decode cL_areFigures 61 = .ok (.ladd, 1) := by decide +kernel
theorem dL_areFigures_62 : decode cL_areFigures 62 = .ok (.lstore_n 2, 1) := by decide +kernel
theorem dL_areFigures_63 : decode cL_areFigures 63 = .ok (.iload 4, 2) := by decide +kernel
theorem dL_areFigures_65 : decode cL_areFigures 65 = .ok (.iload 6, 2) := by decide +kernel
theorem dL_areFigures_67 : decode cL_areFigures 67 = .ok (.ifCond .eq 7, 3) := by decide +kernel
theorem dL_areFigures_70 : decode cL_areFigures 70 = .ok (.iconst 1, 1) := by decide +kernel
theorem dL_areFigures_71 : decode cL_areFigures 71 = .ok (.goto 4, 3) := by decide +kernel
theorem dL_areFigures_74 : decode cL_areFigures 74 = .ok (.iconst 0, 1) := by decide +kernel
theorem dL_areFigures_75 : decode cL_areFigures 75 = .ok (.iadd, 1) := by decide +kernel
theorem dL_areFigures_76 : decode cL_areFigures 76 = .ok (.istore 4, 2) := by decide +kernel
theorem dL_areFigures_78 : decode cL_areFigures 78 = .ok (.iinc 5 1, 3) := by decide +kernel
theorem dL_areFigures_81 : decode cL_areFigures 81 = .ok (.goto (-73), 3) := by decide +kernel
theorem dL_areFigures_84 : decode cL_areFigures 84 = .ok (.aload_n 0, 1) := by decide +kernel
theorem dL_areFigures_85 : decode cL_areFigures 85 = .ok (.invokevirtual 210, 3) := by decide +kernel
theorem dL_areFigures_88 : decode cL_areFigures 88 = .ok (.lload_n 2, 1) := by decide +kernel
theorem dL_areFigures_89 : decode cL_areFigures 89 = .ok (.lcmp, 1) := by decide +kernel
theorem dL_areFigures_90 : decode cL_areFigures 90 = .ok (.ifCond .ne 34, 3) := by decide +kernel
theorem dL_areFigures_93 : decode cL_areFigures 93 = .ok (.aload_n 0, 1) := by decide +kernel
theorem dL_areFigures_94 : decode cL_areFigures 94 = .ok (.invokestatic 214, 3) := by decide +kernel
theorem dL_areFigures_97 : decode cL_areFigures 97 = .ok (.aload_n 1, 1) := by decide +kernel
theorem dL_areFigures_98 : decode cL_areFigures 98 = .ok (.iconst 2, 1) := by decide +kernel
theorem dL_areFigures_99 : decode cL_areFigures 99 = .ok (.iaload, 1) := by decide +kernel
theorem dL_areFigures_100 : decode cL_areFigures 100 = .ok (.ifCond .ne 8, 3) := by decide +kernel
theorem dL_areFigures_103 : decode cL_areFigures 103 = .ok (.ldc 90, 2) := by decide +kernel
theorem dL_areFigures_105 : decode cL_areFigures 105 = .ok (.goto 11, 3) := by decide +kernel
theorem dL_areFigures_108 : decode cL_areFigures 108 = .ok (.iload 4, 2) := by decide +kernel
theorem dL_areFigures_110 : decode cL_areFigures 110 = .ok (.i2f, 1) := by decide +kernel
theorem dL_areFigures_111 : decode cL_areFigures 111 = .ok (.aload_n 1, 1) := by decide +kernel
theorem dL_areFigures_112 : decode cL_areFigures 112 = .ok (.iconst 2, 1) := by decide +kernel
theorem dL_areFigures_113 : decode cL_areFigures 113 = .ok (.iaload, 1) := by decide +kernel
theorem dL_areFigures_114 : decode cL_areFigures 114 = .ok (.i2f, 1) := by decide +kernel
theorem dL_areFigures_115 : decode cL_areFigures 115 = .ok (.fdiv, 1) := by decide +kernel
theorem dL_areFigures_116 : decode cL_areFigures 116 = .ok (.fcmp .l, 1) := by decide +kernel
theorem dL_areFigures_117 : decode cL_areFigures 117 = .ok (.ifCond .ne 7, 3) := by decide +kernel
theorem dL_areFigures_120 : decode cL_areFigures 120 = .ok (.iconst 1, 1) := by decide +kernel
theorem dL_areFigures_121 : decode cL_areFigures 121 = .ok (.goto 4, 3) := by decide +kernel
theorem dL_areFigures_124 : decode cL_areFigures 124 = .ok (.iconst 0, 1) := by decide +kernel
theorem dL_areFigures_125 : decode cL_areFigures 125 = .ok (.ireturn, 1) := by decide +kernel
