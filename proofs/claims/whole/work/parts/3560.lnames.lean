abbrev cL_addPerson : ByteArray := method_3_code
def yL_addPerson : MethodName := ⟨RL, "addPerson", "(LSignatory;[J)I"⟩
abbrev cL_leave : ByteArray := method_4_code
def yL_leave : MethodName := ⟨RL, "leave", "(LSignatory;II[J)I"⟩
abbrev cL_comeBack : ByteArray := method_5_code
def yL_comeBack : MethodName := ⟨RL, "comeBack", "(LSignatory;I[J)I"⟩
abbrev cL_actsFor : ByteArray := method_6_code
def yL_actsFor : MethodName := ⟨RL, "actsFor", "(LSignatory;II[J)I"⟩
abbrev cL_grant : ByteArray := method_7_code
def yL_grant : MethodName := ⟨RL, "grant", "(LSignatory;IICIII[J)I"⟩
abbrev cL_delegate : ByteArray := method_8_code
def yL_delegate : MethodName := ⟨RL, "delegate", "(LSignatory;IIIII[J)I"⟩
abbrev cL_lower : ByteArray := method_9_code
def yL_lower : MethodName := ⟨RL, "lower", "(LSignatory;II[J)I"⟩
abbrev cL_revoke : ByteArray := method_10_code
def yL_revoke : MethodName := ⟨RL, "revoke", "(LSignatory;I[J)I"⟩
abbrev cL_source : ByteArray := method_11_code
def yL_source : MethodName := ⟨RL, "source", "(LSignatory;I[J)I"⟩
abbrev cL_limit : ByteArray := method_12_code
def yL_limit : MethodName := ⟨RL, "limit", "(LSignatory;I[J)I"⟩
abbrev cL_fault : ByteArray := method_13_code
def yL_fault : MethodName := ⟨RL, "fault", "(LSignatory;II[J)I"⟩
abbrev cL_faultDepth : ByteArray := method_14_code
def yL_faultDepth : MethodName := ⟨RL, "faultDepth", "(LSignatory;II[J)I"⟩
abbrev cL_reach : ByteArray := method_15_code
def yL_reach : MethodName := ⟨RL, "reach", "(LSignatory;I[J)I"⟩
abbrev cL_canSign : ByteArray := method_16_code
def yL_canSign : MethodName := ⟨RL, "canSign", "(LSignatory;III[J)I"⟩
abbrev cL_canSignTogether : ByteArray := method_17_code
def yL_canSignTogether : MethodName := ⟨RL, "canSignTogether", "(LSignatory;IIII[J)I"⟩
abbrev cL_signers : ByteArray := method_18_code
def yL_signers : MethodName := ⟨RL, "signers", "(LSignatory;II[J)I"⟩
abbrev cL_pairs : ByteArray := method_19_code
def yL_pairs : MethodName := ⟨RL, "pairs", "(LSignatory;II[J)I"⟩
abbrev cL_pairsByTrying : ByteArray := method_20_code
def yL_pairsByTrying : MethodName := ⟨RL, "pairsByTrying", "(LSignatory;II[J)I"⟩
abbrev cL_sign : ByteArray := method_21_code
def yL_sign : MethodName := ⟨RL, "sign", "(LSignatory;IIII[J)I"⟩
abbrev cL_signTogether : ByteArray := method_22_code
def yL_signTogether : MethodName := ⟨RL, "signTogether", "(LSignatory;IIIII[J)I"⟩
abbrev cL_ratify : ByteArray := method_23_code
def yL_ratify : MethodName := ⟨RL, "ratify", "(LSignatory;II[J)I"⟩
abbrev cL_annul : ByteArray := method_24_code
def yL_annul : MethodName := ⟨RL, "annul", "(LSignatory;I[J)I"⟩
abbrev cL_status : ByteArray := method_25_code
def yL_status : MethodName := ⟨RL, "status", "(LSignatory;I[J)I"⟩
abbrev cL_sum : ByteArray := method_26_code
def yL_sum : MethodName := ⟨RL, "sum", "(LSignatory;I[J)I"⟩
abbrev cL_sumByPapers : ByteArray := method_27_code
def yL_sumByPapers : MethodName := ⟨RL, "sumByPapers", "(LSignatory;I[J)I"⟩
abbrev cL_stands : ByteArray := method_28_code
def yL_stands : MethodName := ⟨RL, "stands", "(LSignatory;I[J)I"⟩
abbrev cL_standsByPapers : ByteArray := method_29_code
def yL_standsByPapers : MethodName := ⟨RL, "standsByPapers", "(LSignatory;I[J)I"⟩
abbrev cL_lack : ByteArray := method_30_code
def yL_lack : MethodName := ⟨RL, "lack", "(LSignatory;I[J)I"⟩
abbrev cL_lackPower : ByteArray := method_31_code
def yL_lackPower : MethodName := ⟨RL, "lackPower", "(LSignatory;I[J)I"⟩
abbrev cL_lackDepth : ByteArray := method_32_code
def yL_lackDepth : MethodName := ⟨RL, "lackDepth", "(LSignatory;I[J)I"⟩
abbrev cL_setWindow : ByteArray := method_33_code
def yL_setWindow : MethodName := ⟨RL, "setWindow", "(LSignatory;I[J)I"⟩
abbrev cL_pass : ByteArray := method_34_code
def yL_pass : MethodName := ⟨RL, "pass", "(LSignatory;I[J)I"⟩
abbrev cL_standingShare : ByteArray := method_35_code
def yL_standingShare : MethodName := ⟨RL, "standingShare", "(LSignatory;[D)I"⟩
abbrev cL_law : ByteArray := code
def yL_law : MethodName := ⟨RL, "law", "([I)Z"⟩
theorem dL_addPerson_0 : decode cL_addPerson 0 = .ok (.aload_n 1, 1) := by decide +kernel
theorem dL_addPerson_1 : decode cL_addPerson 1 = .ok (.iconst 0, 1) := by decide +kernel
theorem dL_addPerson_2 : decode cL_addPerson 2 = .ok (.aload_n 0, 1) := by decide +kernel
theorem dL_addPerson_3 : decode cL_addPerson 3 = .ok (.invokevirtual 7, 3) := by decide +kernel
theorem dL_addPerson_6 : decode cL_addPerson 6 = .ok (.i2l, 1) := by decide +kernel
theorem dL_addPerson_7 : decode cL_addPerson 7 = .ok (.lastore, 1) := by decide +kernel
theorem dL_addPerson_8 : decode cL_addPerson 8 = .ok (.goto 6, 3) := by decide +kernel
theorem dL_addPerson_11 : decode cL_addPerson 11 = .ok (.astore_n 2, 1) := by decide +kernel
theorem dL_addPerson_12 : decode cL_addPerson 12 = .ok (.iconst 1, 1) := by decide +kernel
theorem dL_addPerson_13 : decode cL_addPerson 13 = .ok (.ireturn, 1) := by decide +kernel
theorem dL_addPerson_14 : decode cL_addPerson 14 = .ok (.iconst 0, 1) := by decide +kernel
theorem dL_addPerson_15 : decode cL_addPerson 15 = .ok (.ireturn, 1) := by decide +kernel
theorem dL_leave_0 : decode cL_leave 0 = .ok (.aload_n 3, 1) := by decide +kernel
theorem dL_leave_1 : decode cL_leave 1 = .ok (.iconst 0, 1) := by decide +kernel
theorem dL_leave_2 : decode cL_leave 2 = .ok (.aload_n 0, 1) := by decide +kernel
theorem dL_leave_3 : decode cL_leave 3 = .ok (.iload_n 1, 1) := by decide +kernel
theorem dL_leave_4 : decode cL_leave 4 = .ok (.iload_n 2, 1) := by decide +kernel
theorem dL_leave_5 : decode cL_leave 5 = .ok (.invokevirtual 15, 3) := by decide +kernel
theorem dL_leave_8 : decode cL_leave 8 = .ok (.i2l, 1) := by decide +kernel
theorem dL_leave_9 : decode cL_leave 9 = .ok (.lastore, 1) := by decide +kernel
theorem dL_leave_10 : decode cL_leave 10 = .ok (.goto 11, 3) := by decide +kernel
theorem dL_leave_13 : decode cL_leave 13 = .ok (.astore 4, 2) := by decide +kernel
theorem dL_leave_15 : decode cL_leave 15 = .ok (.iconst 1, 1) := by decide +kernel
theorem dL_leave_16 : decode cL_leave 16 = .ok (.ireturn, 1) := by decide +kernel
theorem dL_leave_17 : decode cL_leave 17 = .ok (.astore 4, 2) := by decide +kernel
theorem dL_leave_19 : decode cL_leave 19 = .ok (.iconst 2, 1) := by decide +kernel
theorem dL_leave_20 : decode cL_leave 20 = .ok (.ireturn, 1) := by decide +kernel
theorem dL_leave_21 : decode cL_leave 21 = .ok (.iconst 0, 1) := by decide +kernel
theorem dL_leave_22 : decode cL_leave 22 = .ok (.ireturn, 1) := by decide +kernel
theorem dL_comeBack_0 : decode cL_comeBack 0 = .ok (.aload_n 2, 1) := by decide +kernel
theorem dL_comeBack_1 : decode cL_comeBack 1 = .ok (.iconst 0, 1) := by decide +kernel
theorem dL_comeBack_2 : decode cL_comeBack 2 = .ok (.aload_n 0, 1) := by decide +kernel
theorem dL_comeBack_3 : decode cL_comeBack 3 = .ok (.iload_n 1, 1) := by decide +kernel
theorem dL_comeBack_4 : decode cL_comeBack 4 = .ok (.invokevirtual 23, 3) := by decide +kernel
theorem dL_comeBack_7 : decode cL_comeBack 7 = .ok (.i2l, 1) := by decide +kernel
theorem dL_comeBack_8 : decode cL_comeBack 8 = .ok (.lastore, 1) := by decide +kernel
theorem dL_comeBack_9 : decode cL_comeBack 9 = .ok (.goto 9, 3) := by decide +kernel
theorem dL_comeBack_12 : decode cL_comeBack 12 = .ok (.astore_n 3, 1) := by decide +kernel
theorem dL_comeBack_13 : decode cL_comeBack 13 = .ok (.iconst 1, 1) := by decide +kernel
theorem dL_comeBack_14 : decode cL_comeBack 14 = .ok (.ireturn, 1) := by decide +kernel
theorem dL_comeBack_15 : decode cL_comeBack 15 = .ok (.astore_n 3, 1) := by decide +kernel
theorem dL_comeBack_16 : decode cL_comeBack 16 = .ok (.iconst 2, 1) := by decide +kernel
theorem dL_comeBack_17 : decode cL_comeBack 17 = .ok (.ireturn, 1) := by decide +kernel
theorem dL_comeBack_18 : decode cL_comeBack 18 = .ok (.iconst 0, 1) := by decide +kernel
theorem dL_comeBack_19 : decode cL_comeBack 19 = .ok (.ireturn, 1) := by decide +kernel
theorem dL_actsFor_0 : decode cL_actsFor 0 = .ok (.aload_n 3, 1) := by decide +kernel
theorem dL_actsFor_1 : decode cL_actsFor 1 = .ok (.iconst 0, 1) := by decide +kernel
theorem dL_actsFor_2 : decode cL_actsFor 2 = .ok (.aload_n 0, 1) := by decide +kernel
theorem dL_actsFor_3 : decode cL_actsFor 3 = .ok (.iload_n 1, 1) := by decide +kernel
theorem dL_actsFor_4 : decode cL_actsFor 4 = .ok (.iload_n 2, 1) := by decide +kernel
theorem dL_actsFor_5 : decode cL_actsFor 5 = .ok (.invokevirtual 27, 3) := by decide +kernel
theorem dL_actsFor_8 : decode cL_actsFor 8 = .ok (.ifCond .eq 7, 3) := by decide +kernel
theorem dL_actsFor_11 : decode cL_actsFor 11 = .ok (.lconst 1, 1) := by decide +kernel
theorem dL_actsFor_12 : decode cL_actsFor 12 = .ok (.goto 4, 3) := by decide +kernel
theorem dL_actsFor_15 : decode cL_actsFor 15 = .ok (.lconst 0, 1) := by decide +kernel
theorem dL_actsFor_16 : decode cL_actsFor 16 = .ok (.lastore, 1) := by decide +kernel
theorem dL_actsFor_17 : decode cL_actsFor 17 = .ok (.goto 7, 3) := by decide +kernel
theorem dL_actsFor_20 : decode cL_actsFor 20 = .ok (.astore 4, 2) := by decide +kernel
theorem dL_actsFor_22 : decode cL_actsFor 22 = .ok (.iconst 1, 1) := by decide +kernel
theorem dL_actsFor_23 : decode cL_actsFor 23 = .ok (.ireturn, 1) := by decide +kernel
theorem dL_actsFor_24 : decode cL_actsFor 24 = .ok (.iconst 0, 1) := by decide +kernel
theorem dL_actsFor_25 : decode cL_actsFor 25 = .ok (.ireturn, 1) := by decide +kernel
theorem dL_grant_0 : decode cL_grant 0 = .ok (.aload 7, 2) := by decide +kernel
theorem dL_grant_2 : decode cL_grant 2 = .ok (.iconst 0, 1) := by decide +kernel
theorem dL_grant_3 : decode cL_grant 3 = .ok (.aload_n 0, 1) := by decide +kernel
theorem dL_grant_4 : decode cL_grant 4 = .ok (.iload_n 1, 1) := by decide +kernel
theorem dL_grant_5 : decode cL_grant 5 = .ok (.iload_n 2, 1) := by decide +kernel
theorem dL_grant_6 : decode cL_grant 6 = .ok (.iload_n 3, 1) := by decide +kernel
theorem dL_grant_7 : decode cL_grant 7 = .ok (.iload 4, 2) := by decide +kernel
theorem dL_grant_9 : decode cL_grant 9 = .ok (.iload 5, 2) := by decide +kernel
theorem dL_grant_11 : decode cL_grant 11 = .ok (.iload 6, 2) := by decide +kernel
theorem dL_grant_13 : decode cL_grant 13 = .ok (.invokevirtual 31, 3) := by decide +kernel
theorem dL_grant_16 : decode cL_grant 16 = .ok (.i2l, 1) := by decide +kernel
theorem dL_grant_17 : decode cL_grant 17 = .ok (.lastore, 1) := by decide +kernel
theorem dL_grant_18 : decode cL_grant 18 = .ok (.goto 15, 3) := by decide +kernel
theorem dL_grant_21 : decode cL_grant 21 = .ok (.astore 8, 2) := by decide +kernel
theorem dL_grant_23 : decode cL_grant 23 = .ok (.iconst 1, 1) := by decide +kernel
theorem dL_grant_24 : decode cL_grant 24 = .ok (.ireturn, 1) := by decide +kernel
theorem dL_grant_25 : decode cL_grant 25 = .ok (.astore 8, 2) := by decide +kernel
theorem dL_grant_27 : decode cL_grant 27 = .ok (.iconst 2, 1) := by decide +kernel
theorem dL_grant_28 : decode cL_grant 28 = .ok (.ireturn, 1) := by decide +kernel
theorem dL_grant_29 : decode cL_grant 29 = .ok (.astore 8, 2) := by decide +kernel
theorem dL_grant_31 : decode cL_grant 31 = .ok (.iconst 3, 1) := by decide +kernel
theorem dL_grant_32 : decode cL_grant 32 = .ok (.ireturn, 1) := by decide +kernel
theorem dL_grant_33 : decode cL_grant 33 = .ok (.iconst 0, 1) := by decide +kernel
theorem dL_grant_34 : decode cL_grant 34 = .ok (.ireturn, 1) := by decide +kernel
theorem dL_delegate_0 : decode cL_delegate 0 = .ok (.aload 6, 2) := by decide +kernel
theorem dL_delegate_2 : decode cL_delegate 2 = .ok (.iconst 0, 1) := by decide +kernel
theorem dL_delegate_3 : decode cL_delegate 3 = .ok (.aload_n 0, 1) := by decide +kernel
theorem dL_delegate_4 : decode cL_delegate 4 = .ok (.iload_n 1, 1) := by decide +kernel
theorem dL_delegate_5 : decode cL_delegate 5 = .ok (.iload_n 2, 1) := by decide +kernel
theorem dL_delegate_6 : decode cL_delegate 6 = .ok (.iload_n 3, 1) := by decide +kernel
theorem dL_delegate_7 : decode cL_delegate 7 = .ok (.iload 4, 2) := by decide +kernel
theorem dL_delegate_9 : decode cL_delegate 9 = .ok (.iload 5, 2) := by decide +kernel
theorem dL_delegate_11 : decode cL_delegate 11 = .ok (.invokevirtual 35, 3) := by decide +kernel
theorem dL_delegate_14 : decode cL_delegate 14 = .ok (.i2l, 1) := by decide +kernel
theorem dL_delegate_15 : decode cL_delegate 15 = .ok (.lastore, 1) := by decide +kernel
theorem dL_delegate_16 : decode cL_delegate 16 = .ok (.goto 19, 3) := by decide +kernel
theorem dL_delegate_19 : decode cL_delegate 19 = .ok (.astore 7, 2) := by decide +kernel
theorem dL_delegate_21 : decode cL_delegate 21 = .ok (.iconst 1, 1) := by decide +kernel
theorem dL_delegate_22 : decode cL_delegate 22 = .ok (.ireturn, 1) := by decide +kernel
theorem dL_delegate_23 : decode cL_delegate 23 = .ok (.astore 7, 2) := by decide +kernel
theorem dL_delegate_25 : decode cL_delegate 25 = .ok (.iconst 2, 1) := by decide +kernel
theorem dL_delegate_26 : decode cL_delegate 26 = .ok (.ireturn, 1) := by decide +kernel
theorem dL_delegate_27 : decode cL_delegate 27 = .ok (.astore 7, 2) := by decide +kernel
theorem dL_delegate_29 : decode cL_delegate 29 = .ok (.iconst 3, 1) := by decide +kernel
theorem dL_delegate_30 : decode cL_delegate 30 = .ok (.ireturn, 1) := by decide +kernel
theorem dL_delegate_31 : decode cL_delegate 31 = .ok (.astore 7, 2) := by decide +kernel
theorem dL_delegate_33 : decode cL_delegate 33 = .ok (.iconst 4, 1) := by decide +kernel
theorem dL_delegate_34 : decode cL_delegate 34 = .ok (.ireturn, 1) := by decide +kernel
theorem dL_delegate_35 : decode cL_delegate 35 = .ok (.iconst 0, 1) := by decide +kernel
theorem dL_delegate_36 : decode cL_delegate 36 = .ok (.ireturn, 1) := by decide +kernel
theorem dL_lower_0 : decode cL_lower 0 = .ok (.aload_n 3, 1) := by decide +kernel
theorem dL_lower_1 : decode cL_lower 1 = .ok (.iconst 0, 1) := by decide +kernel
theorem dL_lower_2 : decode cL_lower 2 = .ok (.aload_n 0, 1) := by decide +kernel
theorem dL_lower_3 : decode cL_lower 3 = .ok (.iload_n 1, 1) := by decide +kernel
theorem dL_lower_4 : decode cL_lower 4 = .ok (.iload_n 2, 1) := by decide +kernel
theorem dL_lower_5 : decode cL_lower 5 = .ok (.invokevirtual 41, 3) := by decide +kernel
theorem dL_lower_8 : decode cL_lower 8 = .ok (.i2l, 1) := by decide +kernel
theorem dL_lower_9 : decode cL_lower 9 = .ok (.lastore, 1) := by decide +kernel
theorem dL_lower_10 : decode cL_lower 10 = .ok (.goto 11, 3) := by decide +kernel
theorem dL_lower_13 : decode cL_lower 13 = .ok (.astore 4, 2) := by decide +kernel
theorem dL_lower_15 : decode cL_lower 15 = .ok (.iconst 1, 1) := by decide +kernel
theorem dL_lower_16 : decode cL_lower 16 = .ok (.ireturn, 1) := by decide +kernel
theorem dL_lower_17 : decode cL_lower 17 = .ok (.astore 4, 2) := by decide +kernel
theorem dL_lower_19 : decode cL_lower 19 = .ok (.iconst 2, 1) := by decide +kernel
theorem dL_lower_20 : decode cL_lower 20 = .ok (.ireturn, 1) := by decide +kernel
theorem dL_lower_21 : decode cL_lower 21 = .ok (.iconst 0, 1) := by decide +kernel
theorem dL_lower_22 : decode cL_lower 22 = .ok (.ireturn, 1) := by decide +kernel
theorem dL_revoke_0 : decode cL_revoke 0 = .ok (.aload_n 2, 1) := by decide +kernel
theorem dL_revoke_1 : decode cL_revoke 1 = .ok (.iconst 0, 1) := by decide +kernel
theorem dL_revoke_2 : decode cL_revoke 2 = .ok (.aload_n 0, 1) := by decide +kernel
theorem dL_revoke_3 : decode cL_revoke 3 = .ok (.iload_n 1, 1) := by decide +kernel
theorem dL_revoke_4 : decode cL_revoke 4 = .ok (.invokevirtual 44, 3) := by decide +kernel
theorem dL_revoke_7 : decode cL_revoke 7 = .ok (.i2l, 1) := by decide +kernel
theorem dL_revoke_8 : decode cL_revoke 8 = .ok (.lastore, 1) := by decide +kernel
theorem dL_revoke_9 : decode cL_revoke 9 = .ok (.goto 9, 3) := by decide +kernel
theorem dL_revoke_12 : decode cL_revoke 12 = .ok (.astore_n 3, 1) := by decide +kernel
theorem dL_revoke_13 : decode cL_revoke 13 = .ok (.iconst 1, 1) := by decide +kernel
theorem dL_revoke_14 : decode cL_revoke 14 = .ok (.ireturn, 1) := by decide +kernel
theorem dL_revoke_15 : decode cL_revoke 15 = .ok (.astore_n 3, 1) := by decide +kernel
theorem dL_revoke_16 : decode cL_revoke 16 = .ok (.iconst 2, 1) := by decide +kernel
theorem dL_revoke_17 : decode cL_revoke 17 = .ok (.ireturn, 1) := by decide +kernel
theorem dL_revoke_18 : decode cL_revoke 18 = .ok (.iconst 0, 1) := by decide +kernel
theorem dL_revoke_19 : decode cL_revoke 19 = .ok (.ireturn, 1) := by decide +kernel
theorem dL_source_0 : decode cL_source 0 = .ok (.aload_n 2, 1) := by decide +kernel
theorem dL_source_1 : decode cL_source 1 = .ok (.iconst 0, 1) := by decide +kernel
theorem dL_source_2 : decode cL_source 2 = .ok (.aload_n 0, 1) := by decide +kernel
theorem dL_source_3 : decode cL_source 3 = .ok (.iload_n 1, 1) := by decide +kernel
theorem dL_source_4 : decode cL_source 4 = .ok (.invokevirtual 47, 3) := by decide +kernel
theorem dL_source_7 : decode cL_source 7 = .ok (.i2l, 1) := by decide +kernel
theorem dL_source_8 : decode cL_source 8 = .ok (.lastore, 1) := by decide +kernel
theorem dL_source_9 : decode cL_source 9 = .ok (.goto 6, 3) := by decide +kernel
theorem dL_source_12 : decode cL_source 12 = .ok (.astore_n 3, 1) := by decide +kernel
theorem dL_source_13 : decode cL_source 13 = .ok (.iconst 1, 1) := by decide +kernel
theorem dL_source_14 : decode cL_source 14 = .ok (.ireturn, 1) := by decide +kernel
theorem dL_source_15 : decode cL_source 15 = .ok (.iconst 0, 1) := by decide +kernel
theorem dL_source_16 : decode cL_source 16 = .ok (.ireturn, 1) := by decide +kernel
theorem dL_limit_0 : decode cL_limit 0 = .ok (.aload_n 2, 1) := by decide +kernel
theorem dL_limit_1 : decode cL_limit 1 = .ok (.iconst 0, 1) := by decide +kernel
theorem dL_limit_2 : decode cL_limit 2 = .ok (.aload_n 0, 1) := by decide +kernel
theorem dL_limit_3 : decode cL_limit 3 = .ok (.iload_n 1, 1) := by decide +kernel
theorem dL_limit_4 : decode cL_limit 4 = .ok (.invokevirtual 50, 3) := by decide +kernel
theorem dL_limit_7 : decode cL_limit 7 = .ok (.i2l, 1) := by decide +kernel
theorem dL_limit_8 : decode cL_limit 8 = .ok (.lastore, 1) := by decide +kernel
theorem dL_limit_9 : decode cL_limit 9 = .ok (.goto 6, 3) := by decide +kernel
theorem dL_limit_12 : decode cL_limit 12 = .ok (.astore_n 3, 1) := by decide +kernel
theorem dL_limit_13 : decode cL_limit 13 = .ok (.iconst 1, 1) := by decide +kernel
theorem dL_limit_14 : decode cL_limit 14 = .ok (.ireturn, 1) := by decide +kernel
theorem dL_limit_15 : decode cL_limit 15 = .ok (.iconst 0, 1) := by decide +kernel
theorem dL_limit_16 : decode cL_limit 16 = .ok (.ireturn, 1) := by decide +kernel
theorem dL_fault_0 : decode cL_fault 0 = .ok (.aload_n 3, 1) := by decide +kernel
theorem dL_fault_1 : decode cL_fault 1 = .ok (.iconst 0, 1) := by decide +kernel
theorem dL_fault_2 : decode cL_fault 2 = .ok (.aload_n 0, 1) := by decide +kernel
theorem dL_fault_3 : decode cL_fault 3 = .ok (.iload_n 1, 1) := by decide +kernel
theorem dL_fault_4 : decode cL_fault 4 = .ok (.iload_n 2, 1) := by decide +kernel
theorem dL_fault_5 : decode cL_fault 5 = .ok (.invokevirtual 53, 3) := by decide +kernel
theorem dL_fault_8 : decode cL_fault 8 = .ok (.i2l, 1) := by decide +kernel
theorem dL_fault_9 : decode cL_fault 9 = .ok (.lastore, 1) := by decide +kernel
theorem dL_fault_10 : decode cL_fault 10 = .ok (.goto 11, 3) := by decide +kernel
theorem dL_fault_13 : decode cL_fault 13 = .ok (.astore 4, 2) := by decide +kernel
theorem dL_fault_15 : decode cL_fault 15 = .ok (.iconst 1, 1) := by decide +kernel
theorem dL_fault_16 : decode cL_fault 16 = .ok (.ireturn, 1) := by decide +kernel
theorem dL_fault_17 : decode cL_fault 17 = .ok (.astore 4, 2) := by decide +kernel
theorem dL_fault_19 : decode cL_fault 19 = .ok (.iconst 2, 1) := by decide +kernel
theorem dL_fault_20 : decode cL_fault 20 = .ok (.ireturn, 1) := by decide +kernel
theorem dL_fault_21 : decode cL_fault 21 = .ok (.iconst 0, 1) := by decide +kernel
theorem dL_fault_22 : decode cL_fault 22 = .ok (.ireturn, 1) := by decide +kernel
theorem dL_faultDepth_0 : decode cL_faultDepth 0 = .ok (.aload_n 3, 1) := by decide +kernel
theorem dL_faultDepth_1 : decode cL_faultDepth 1 = .ok (.iconst 0, 1) := by decide +kernel
theorem dL_faultDepth_2 : decode cL_faultDepth 2 = .ok (.aload_n 0, 1) := by decide +kernel
theorem dL_faultDepth_3 : decode cL_faultDepth 3 = .ok (.iload_n 1, 1) := by decide +kernel
theorem dL_faultDepth_4 : decode cL_faultDepth 4 = .ok (.iload_n 2, 1) := by decide +kernel
theorem dL_faultDepth_5 : decode cL_faultDepth 5 = .ok (.invokevirtual 57, 3) := by decide +kernel
theorem dL_faultDepth_8 : decode cL_faultDepth 8 = .ok (.i2l, 1) := by decide +kernel
theorem dL_faultDepth_9 : decode cL_faultDepth 9 = .ok (.lastore, 1) := by decide +kernel
theorem dL_faultDepth_10 : decode cL_faultDepth 10 = .ok (.goto 15, 3) := by decide +kernel
theorem dL_faultDepth_13 : decode cL_faultDepth 13 = .ok (.astore 4, 2) := by decide +kernel
theorem dL_faultDepth_15 : decode cL_faultDepth 15 = .ok (.iconst 1, 1) := by decide +kernel
theorem dL_faultDepth_16 : decode cL_faultDepth 16 = .ok (.ireturn, 1) := by decide +kernel
theorem dL_faultDepth_17 : decode cL_faultDepth 17 = .ok (.astore 4, 2) := by decide +kernel
theorem dL_faultDepth_19 : decode cL_faultDepth 19 = .ok (.iconst 2, 1) := by decide +kernel
theorem dL_faultDepth_20 : decode cL_faultDepth 20 = .ok (.ireturn, 1) := by decide +kernel
theorem dL_faultDepth_21 : decode cL_faultDepth 21 = .ok (.astore 4, 2) := by decide +kernel
theorem dL_faultDepth_23 : decode cL_faultDepth 23 = .ok (.iconst 3, 1) := by decide +kernel
theorem dL_faultDepth_24 : decode cL_faultDepth 24 = .ok (.ireturn, 1) := by decide +kernel
theorem dL_faultDepth_25 : decode cL_faultDepth 25 = .ok (.iconst 0, 1) := by decide +kernel
theorem dL_faultDepth_26 : decode cL_faultDepth 26 = .ok (.ireturn, 1) := by decide +kernel
theorem dL_reach_0 : decode cL_reach 0 = .ok (.aload_n 2, 1) := by decide +kernel
theorem dL_reach_1 : decode cL_reach 1 = .ok (.iconst 0, 1) := by decide +kernel
theorem dL_reach_2 : decode cL_reach 2 = .ok (.aload_n 0, 1) := by decide +kernel
theorem dL_reach_3 : decode cL_reach 3 = .ok (.iload_n 1, 1) := by decide +kernel
theorem dL_reach_4 : decode cL_reach 4 = .ok (.invokevirtual 62, 3) := by decide +kernel
theorem dL_reach_7 : decode cL_reach 7 = .ok (.i2l, 1) := by decide +kernel
theorem dL_reach_8 : decode cL_reach 8 = .ok (.lastore, 1) := by decide +kernel
theorem dL_reach_9 : decode cL_reach 9 = .ok (.goto 6, 3) := by decide +kernel
theorem dL_reach_12 : decode cL_reach 12 = .ok (.astore_n 3, 1) := by decide +kernel
theorem dL_reach_13 : decode cL_reach 13 = .ok (.iconst 1, 1) := by decide +kernel
theorem dL_reach_14 : decode cL_reach 14 = .ok (.ireturn, 1) := by decide +kernel
theorem dL_reach_15 : decode cL_reach 15 = .ok (.iconst 0, 1) := by decide +kernel
theorem dL_reach_16 : decode cL_reach 16 = .ok (.ireturn, 1) := by decide +kernel
theorem dL_canSign_0 : decode cL_canSign 0 = .ok (.aload 4, 2) := by decide +kernel
theorem dL_canSign_2 : decode cL_canSign 2 = .ok (.iconst 0, 1) := by decide +kernel
theorem dL_canSign_3 : decode cL_canSign 3 = .ok (.aload_n 0, 1) := by decide +kernel
theorem dL_canSign_4 : decode cL_canSign 4 = .ok (.iload_n 1, 1) := by decide +kernel
theorem dL_canSign_5 : decode cL_canSign 5 = .ok (.iload_n 2, 1) := by decide +kernel
theorem dL_canSign_6 : decode cL_canSign 6 = .ok (.iload_n 3, 1) := by decide +kernel
theorem dL_canSign_7 : decode cL_canSign 7 = .ok (.invokevirtual 65, 3) := by decide +kernel
theorem dL_canSign_10 : decode cL_canSign 10 = .ok (.ifCond .eq 7, 3) := by decide +kernel
theorem dL_canSign_13 : decode cL_canSign 13 = .ok (.lconst 1, 1) := by decide +kernel
theorem dL_canSign_14 : decode cL_canSign 14 = .ok (.goto 4, 3) := by decide +kernel
theorem dL_canSign_17 : decode cL_canSign 17 = .ok (.lconst 0, 1) := by decide +kernel
theorem dL_canSign_18 : decode cL_canSign 18 = .ok (.lastore, 1) := by decide +kernel
theorem dL_canSign_19 : decode cL_canSign 19 = .ok (.goto 11, 3) := by decide +kernel
theorem dL_canSign_22 : decode cL_canSign 22 = .ok (.astore 5, 2) := by decide +kernel
theorem dL_canSign_24 : decode cL_canSign 24 = .ok (.iconst 1, 1) := by decide +kernel
theorem dL_canSign_25 : decode cL_canSign 25 = .ok (.ireturn, 1) := by decide +kernel
theorem dL_canSign_26 : decode cL_canSign 26 = .ok (.astore 5, 2) := by decide +kernel
theorem dL_canSign_28 : decode cL_canSign 28 = .ok (.iconst 2, 1) := by decide +kernel
theorem dL_canSign_29 : decode cL_canSign 29 = .ok (.ireturn, 1) := by decide +kernel
theorem dL_canSign_30 : decode cL_canSign 30 = .ok (.iconst 0, 1) := by decide +kernel
theorem dL_canSign_31 : decode cL_canSign 31 = .ok (.ireturn, 1) := by decide +kernel
theorem dL_canSignTogether_0 : decode cL_canSignTogether 0 = .ok (.aload 5, 2) := by decide +kernel
theorem dL_canSignTogether_2 : decode cL_canSignTogether 2 = .ok (.iconst 0, 1) := by decide +kernel
theorem dL_canSignTogether_3 : decode cL_canSignTogether 3 = .ok (.aload_n 0, 1) := by decide +kernel
theorem dL_canSignTogether_4 : decode cL_canSignTogether 4 = .ok (.iload_n 1, 1) := by decide +kernel
theorem dL_canSignTogether_5 : decode cL_canSignTogether 5 = .ok (.iload_n 2, 1) := by decide +kernel
theorem dL_canSignTogether_6 : decode cL_canSignTogether 6 = .ok (.iload_n 3, 1) := by decide +kernel
theorem dL_canSignTogether_7 : decode cL_canSignTogether 7 = .ok (.iload 4, 2) := by decide +kernel
theorem dL_canSignTogether_9 : decode cL_canSignTogether 9 = .ok (.invokevirtual 69, 3) := by decide +kernel
theorem dL_canSignTogether_12 : decode cL_canSignTogether 12 = .ok (.ifCond .eq 7, 3) := by decide +kernel
theorem dL_canSignTogether_15 : decode cL_canSignTogether 15 = .ok (.lconst 1, 1) := by decide +kernel
theorem dL_canSignTogether_16 : decode cL_canSignTogether 16 = .ok (.goto 4, 3) := by decide +kernel
theorem dL_canSignTogether_19 : decode cL_canSignTogether 19 = .ok (.lconst 0, 1) := by decide +kernel
theorem dL_canSignTogether_20 : decode cL_canSignTogether 20 = .ok (.lastore, 1) := by decide +kernel
theorem dL_canSignTogether_21 : decode cL_canSignTogether 21 = .ok (.goto 15, 3) := by decide +kernel
theorem dL_canSignTogether_24 : decode cL_canSignTogether 24 = .ok (.astore 6, 2) := by decide +kernel
theorem dL_canSignTogether_26 : decode cL_canSignTogether 26 = .ok (.iconst 1, 1) := by decide +kernel
theorem dL_canSignTogether_27 : decode cL_canSignTogether 27 = .ok (.ireturn, 1) := by decide +kernel
theorem dL_canSignTogether_28 : decode cL_canSignTogether 28 = .ok (.astore 6, 2) := by decide +kernel
theorem dL_canSignTogether_30 : decode cL_canSignTogether 30 = .ok (.iconst 2, 1) := by decide +kernel
theorem dL_canSignTogether_31 : decode cL_canSignTogether 31 = .ok (.ireturn, 1) := by decide +kernel
theorem dL_canSignTogether_32 : decode cL_canSignTogether 32 = .ok (.astore 6, 2) := by decide +kernel
theorem dL_canSignTogether_34 : decode cL_canSignTogether 34 = .ok (.iconst 3, 1) := by decide +kernel
theorem dL_canSignTogether_35 : decode cL_canSignTogether 35 = .ok (.ireturn, 1) := by decide +kernel
theorem dL_canSignTogether_36 : decode cL_canSignTogether 36 = .ok (.iconst 0, 1) := by decide +kernel
theorem dL_canSignTogether_37 : decode cL_canSignTogether 37 = .ok (.ireturn, 1) := by decide +kernel
theorem dL_signers_0 : decode cL_signers 0 = .ok (.aload_n 3, 1) := by decide +kernel
theorem dL_signers_1 : decode cL_signers 1 = .ok (.iconst 0, 1) := by decide +kernel
theorem dL_signers_2 : decode cL_signers 2 = .ok (.aload_n 0, 1) := by decide +kernel
theorem dL_signers_3 : decode cL_signers 3 = .ok (.iload_n 1, 1) := by decide +kernel
theorem dL_signers_4 : decode cL_signers 4 = .ok (.iload_n 2, 1) := by decide +kernel
theorem dL_signers_5 : decode cL_signers 5 = .ok (.invokevirtual 73, 3) := by decide +kernel
theorem dL_signers_8 : decode cL_signers 8 = .ok (.i2l, 1) := by decide +kernel
theorem dL_signers_9 : decode cL_signers 9 = .ok (.lastore, 1) := by decide +kernel
theorem dL_signers_10 : decode cL_signers 10 = .ok (.goto 7, 3) := by decide +kernel
theorem dL_signers_13 : decode cL_signers 13 = .ok (.astore 4, 2) := by decide +kernel
theorem dL_signers_15 : decode cL_signers 15 = .ok (.iconst 1, 1) := by decide +kernel
theorem dL_signers_16 : decode cL_signers 16 = .ok (.ireturn, 1) := by decide +kernel
theorem dL_signers_17 : decode cL_signers 17 = .ok (.iconst 0, 1) := by decide +kernel
theorem dL_signers_18 : decode cL_signers 18 = .ok (.ireturn, 1) := by decide +kernel
theorem dL_pairs_0 : decode cL_pairs 0 = .ok (.aload_n 3, 1) := by decide +kernel
theorem dL_pairs_1 : decode cL_pairs 1 = .ok (.iconst 0, 1) := by decide +kernel
theorem dL_pairs_2 : decode cL_pairs 2 = .ok (.aload_n 0, 1) := by decide +kernel
theorem dL_pairs_3 : decode cL_pairs 3 = .ok (.iload_n 1, 1) := by decide +kernel
theorem dL_pairs_4 : decode cL_pairs 4 = .ok (.iload_n 2, 1) := by decide +kernel
theorem dL_pairs_5 : decode cL_pairs 5 = .ok (.invokevirtual 76, 3) := by decide +kernel
theorem dL_pairs_8 : decode cL_pairs 8 = .ok (.i2l, 1) := by decide +kernel
theorem dL_pairs_9 : decode cL_pairs 9 = .ok (.lastore, 1) := by decide +kernel
theorem dL_pairs_10 : decode cL_pairs 10 = .ok (.goto 7, 3) := by decide +kernel
theorem dL_pairs_13 : decode cL_pairs 13 = .ok (.astore 4, 2) := by decide +kernel
theorem dL_pairs_15 : decode cL_pairs 15 = .ok (.iconst 1, 1) := by decide +kernel
theorem dL_pairs_16 : decode cL_pairs 16 = .ok (.ireturn, 1) := by decide +kernel
theorem dL_pairs_17 : decode cL_pairs 17 = .ok (.iconst 0, 1) := by decide +kernel
theorem dL_pairs_18 : decode cL_pairs 18 = .ok (.ireturn, 1) := by decide +kernel
theorem dL_pairsByTrying_0 : decode cL_pairsByTrying 0 = .ok (.aload_n 3, 1) := by decide +kernel
theorem dL_pairsByTrying_1 : decode cL_pairsByTrying 1 = .ok (.iconst 0, 1) := by decide +kernel
theorem dL_pairsByTrying_2 : decode cL_pairsByTrying 2 = .ok (.aload_n 0, 1) := by decide +kernel
theorem dL_pairsByTrying_3 : decode cL_pairsByTrying 3 = .ok (.iload_n 1, 1) := by decide +kernel
theorem dL_pairsByTrying_4 : decode cL_pairsByTrying 4 = .ok (.iload_n 2, 1) := by decide +kernel
theorem dL_pairsByTrying_5 : decode cL_pairsByTrying 5 = .ok (.invokevirtual 79, 3) := by decide +kernel
theorem dL_pairsByTrying_8 : decode cL_pairsByTrying 8 = .ok (.i2l, 1) := by decide +kernel
theorem dL_pairsByTrying_9 : decode cL_pairsByTrying 9 = .ok (.lastore, 1) := by decide +kernel
theorem dL_pairsByTrying_10 : decode cL_pairsByTrying 10 = .ok (.goto 7, 3) := by decide +kernel
theorem dL_pairsByTrying_13 : decode cL_pairsByTrying 13 = .ok (.astore 4, 2) := by decide +kernel
theorem dL_pairsByTrying_15 : decode cL_pairsByTrying 15 = .ok (.iconst 1, 1) := by decide +kernel
theorem dL_pairsByTrying_16 : decode cL_pairsByTrying 16 = .ok (.ireturn, 1) := by decide +kernel
theorem dL_pairsByTrying_17 : decode cL_pairsByTrying 17 = .ok (.iconst 0, 1) := by decide +kernel
theorem dL_pairsByTrying_18 : decode cL_pairsByTrying 18 = .ok (.ireturn, 1) := by decide +kernel
theorem dL_sign_0 : decode cL_sign 0 = .ok (.aload 5, 2) := by decide +kernel
theorem dL_sign_2 : decode cL_sign 2 = .ok (.iconst 0, 1) := by decide +kernel
theorem dL_sign_3 : decode cL_sign 3 = .ok (.aload_n 0, 1) := by decide +kernel
theorem dL_sign_4 : decode cL_sign 4 = .ok (.iload_n 1, 1) := by decide +kernel
theorem dL_sign_5 : decode cL_sign 5 = .ok (.iload_n 2, 1) := by decide +kernel
theorem dL_sign_6 : decode cL_sign 6 = .ok (.iload_n 3, 1) := by decide +kernel
theorem dL_sign_7 : decode cL_sign 7 = .ok (.iload 4, 2) := by decide +kernel
theorem dL_sign_9 : decode cL_sign 9 = .ok (.invokevirtual 82, 3) := by decide +kernel
theorem dL_sign_12 : decode cL_sign 12 = .ok (.i2l, 1) := by decide +kernel
theorem dL_sign_13 : decode cL_sign 13 = .ok (.lastore, 1) := by decide +kernel
theorem dL_sign_14 : decode cL_sign 14 = .ok (.goto 15, 3) := by decide +kernel
theorem dL_sign_17 : decode cL_sign 17 = .ok (.astore 6, 2) := by decide +kernel
theorem dL_sign_19 : decode cL_sign 19 = .ok (.iconst 1, 1) := by decide +kernel
theorem dL_sign_20 : decode cL_sign 20 = .ok (.ireturn, 1) := by decide +kernel
theorem dL_sign_21 : decode cL_sign 21 = .ok (.astore 6, 2) := by decide +kernel
theorem dL_sign_23 : decode cL_sign 23 = .ok (.iconst 2, 1) := by decide +kernel
theorem dL_sign_24 : decode cL_sign 24 = .ok (.ireturn, 1) := by decide +kernel
theorem dL_sign_25 : decode cL_sign 25 = .ok (.astore 6, 2) := by decide +kernel
theorem dL_sign_27 : decode cL_sign 27 = .ok (.iconst 3, 1) := by decide +kernel
theorem dL_sign_28 : decode cL_sign 28 = .ok (.ireturn, 1) := by decide +kernel
theorem dL_sign_29 : decode cL_sign 29 = .ok (.iconst 0, 1) := by decide +kernel
theorem dL_sign_30 : decode cL_sign 30 = .ok (.ireturn, 1) := by decide +kernel
theorem dL_signTogether_0 : decode cL_signTogether 0 = .ok (.aload 6, 2) := by decide +kernel
theorem dL_signTogether_2 : decode cL_signTogether 2 = .ok (.iconst 0, 1) := by decide +kernel
theorem dL_signTogether_3 : decode cL_signTogether 3 = .ok (.aload_n 0, 1) := by decide +kernel
theorem dL_signTogether_4 : decode cL_signTogether 4 = .ok (.iload_n 1, 1) := by decide +kernel
theorem dL_signTogether_5 : decode cL_signTogether 5 = .ok (.iload_n 2, 1) := by decide +kernel
theorem dL_signTogether_6 : decode cL_signTogether 6 = .ok (.iload_n 3, 1) := by decide +kernel
theorem dL_signTogether_7 : decode cL_signTogether 7 = .ok (.iload 4, 2) := by decide +kernel
theorem dL_signTogether_9 : decode cL_signTogether 9 = .ok (.iload 5, 2) := by decide +kernel
theorem dL_signTogether_11 : decode cL_signTogether 11 = .ok (.invokevirtual 86, 3) := by decide +kernel
theorem dL_signTogether_14 : decode cL_signTogether 14 = .ok (.i2l, 1) := by decide +kernel
theorem dL_signTogether_15 : decode cL_signTogether 15 = .ok (.lastore, 1) := by decide +kernel
theorem dL_signTogether_16 : decode cL_signTogether 16 = .ok (.goto 19, 3) := by decide +kernel
theorem dL_signTogether_19 : decode cL_signTogether 19 = .ok (.astore 7, 2) := by decide +kernel
theorem dL_signTogether_21 : decode cL_signTogether 21 = .ok (.iconst 1, 1) := by decide +kernel
theorem dL_signTogether_22 : decode cL_signTogether 22 = .ok (.ireturn, 1) := by decide +kernel
theorem dL_signTogether_23 : decode cL_signTogether 23 = .ok (.astore 7, 2) := by decide +kernel
theorem dL_signTogether_25 : decode cL_signTogether 25 = .ok (.iconst 2, 1) := by decide +kernel
theorem dL_signTogether_26 : decode cL_signTogether 26 = .ok (.ireturn, 1) := by decide +kernel
theorem dL_signTogether_27 : decode cL_signTogether 27 = .ok (.astore 7, 2) := by decide +kernel
theorem dL_signTogether_29 : decode cL_signTogether 29 = .ok (.iconst 3, 1) := by decide +kernel
theorem dL_signTogether_30 : decode cL_signTogether 30 = .ok (.ireturn, 1) := by decide +kernel
theorem dL_signTogether_31 : decode cL_signTogether 31 = .ok (.astore 7, 2) := by decide +kernel
theorem dL_signTogether_33 : decode cL_signTogether 33 = .ok (.iconst 4, 1) := by decide +kernel
theorem dL_signTogether_34 : decode cL_signTogether 34 = .ok (.ireturn, 1) := by decide +kernel
theorem dL_signTogether_35 : decode cL_signTogether 35 = .ok (.iconst 0, 1) := by decide +kernel
theorem dL_signTogether_36 : decode cL_signTogether 36 = .ok (.ireturn, 1) := by decide +kernel
theorem dL_ratify_0 : decode cL_ratify 0 = .ok (.aload_n 3, 1) := by decide +kernel
theorem dL_ratify_1 : decode cL_ratify 1 = .ok (.iconst 0, 1) := by decide +kernel
theorem dL_ratify_2 : decode cL_ratify 2 = .ok (.aload_n 0, 1) := by decide +kernel
theorem dL_ratify_3 : decode cL_ratify 3 = .ok (.iload_n 1, 1) := by decide +kernel
theorem dL_ratify_4 : decode cL_ratify 4 = .ok (.iload_n 2, 1) := by decide +kernel
theorem dL_ratify_5 : decode cL_ratify 5 = .ok (.invokevirtual 89, 3) := by decide +kernel
theorem dL_ratify_8 : decode cL_ratify 8 = .ok (.i2l, 1) := by decide +kernel
theorem dL_ratify_9 : decode cL_ratify 9 = .ok (.lastore, 1) := by decide +kernel
theorem dL_ratify_10 : decode cL_ratify 10 = .ok (.goto 15, 3) := by decide +kernel
theorem dL_ratify_13 : decode cL_ratify 13 = .ok (.astore 4, 2) := by decide +kernel
theorem dL_ratify_15 : decode cL_ratify 15 = .ok (.iconst 1, 1) := by decide +kernel
theorem dL_ratify_16 : decode cL_ratify 16 = .ok (.ireturn, 1) := by decide +kernel
theorem dL_ratify_17 : decode cL_ratify 17 = .ok (.astore 4, 2) := by decide +kernel
theorem dL_ratify_19 : decode cL_ratify 19 = .ok (.iconst 2, 1) := by decide +kernel
theorem dL_ratify_20 : decode cL_ratify 20 = .ok (.ireturn, 1) := by decide +kernel
theorem dL_ratify_21 : decode cL_ratify 21 = .ok (.astore 4, 2) := by decide +kernel
theorem dL_ratify_23 : decode cL_ratify 23 = .ok (.iconst 3, 1) := by decide +kernel
theorem dL_ratify_24 : decode cL_ratify 24 = .ok (.ireturn, 1) := by decide +kernel
theorem dL_ratify_25 : decode cL_ratify 25 = .ok (.iconst 0, 1) := by decide +kernel
theorem dL_ratify_26 : decode cL_ratify 26 = .ok (.ireturn, 1) := by decide +kernel
theorem dL_annul_0 : decode cL_annul 0 = .ok (.aload_n 2, 1) := by decide +kernel
theorem dL_annul_1 : decode cL_annul 1 = .ok (.iconst 0, 1) := by decide +kernel
theorem dL_annul_2 : decode cL_annul 2 = .ok (.aload_n 0, 1) := by decide +kernel
theorem dL_annul_3 : decode cL_annul 3 = .ok (.iload_n 1, 1) := by decide +kernel
theorem dL_annul_4 : decode cL_annul 4 = .ok (.invokevirtual 92, 3) := by decide +kernel
theorem dL_annul_7 : decode cL_annul 7 = .ok (.i2l, 1) := by decide +kernel
theorem dL_annul_8 : decode cL_annul 8 = .ok (.lastore, 1) := by decide +kernel
theorem dL_annul_9 : decode cL_annul 9 = .ok (.goto 9, 3) := by decide +kernel
theorem dL_annul_12 : decode cL_annul 12 = .ok (.astore_n 3, 1) := by decide +kernel
theorem dL_annul_13 : decode cL_annul 13 = .ok (.iconst 1, 1) := by decide +kernel
theorem dL_annul_14 : decode cL_annul 14 = .ok (.ireturn, 1) := by decide +kernel
theorem dL_annul_15 : decode cL_annul 15 = .ok (.astore_n 3, 1) := by decide +kernel
theorem dL_annul_16 : decode cL_annul 16 = .ok (.iconst 2, 1) := by decide +kernel
theorem dL_annul_17 : decode cL_annul 17 = .ok (.ireturn, 1) := by decide +kernel
theorem dL_annul_18 : decode cL_annul 18 = .ok (.iconst 0, 1) := by decide +kernel
theorem dL_annul_19 : decode cL_annul 19 = .ok (.ireturn, 1) := by decide +kernel
theorem dL_status_0 : decode cL_status 0 = .ok (.aload_n 2, 1) := by decide +kernel
theorem dL_status_1 : decode cL_status 1 = .ok (.iconst 0, 1) := by decide +kernel
theorem dL_status_2 : decode cL_status 2 = .ok (.aload_n 0, 1) := by decide +kernel
theorem dL_status_3 : decode cL_status 3 = .ok (.iload_n 1, 1) := by decide +kernel
theorem dL_status_4 : decode cL_status 4 = .ok (.invokevirtual 95, 3) := by decide +kernel
theorem dL_status_7 : decode cL_status 7 = .ok (.i2l, 1) := by decide +kernel
theorem dL_status_8 : decode cL_status 8 = .ok (.lastore, 1) := by decide +kernel
theorem dL_status_9 : decode cL_status 9 = .ok (.goto 6, 3) := by decide +kernel
theorem dL_status_12 : decode cL_status 12 = .ok (.astore_n 3, 1) := by decide +kernel
theorem dL_status_13 : decode cL_status 13 = .ok (.iconst 1, 1) := by decide +kernel
theorem dL_status_14 : decode cL_status 14 = .ok (.ireturn, 1) := by decide +kernel
theorem dL_status_15 : decode cL_status 15 = .ok (.iconst 0, 1) := by decide +kernel
theorem dL_status_16 : decode cL_status 16 = .ok (.ireturn, 1) := by decide +kernel
theorem dL_sum_0 : decode cL_sum 0 = .ok (.aload_n 2, 1) := by decide +kernel
theorem dL_sum_1 : decode cL_sum 1 = .ok (.iconst 0, 1) := by decide +kernel
theorem dL_sum_2 : decode cL_sum 2 = .ok (.aload_n 0, 1) := by decide +kernel
theorem dL_sum_3 : decode cL_sum 3 = .ok (.iload_n 1, 1) := by decide +kernel
theorem dL_sum_4 : decode cL_sum 4 = .ok (.invokevirtual 99, 3) := by decide +kernel
theorem dL_sum_7 : decode cL_sum 7 = .ok (.i2l, 1) := by decide +kernel
theorem dL_sum_8 : decode cL_sum 8 = .ok (.lastore, 1) := by decide +kernel
theorem dL_sum_9 : decode cL_sum 9 = .ok (.goto 6, 3) := by decide +kernel
theorem dL_sum_12 : decode cL_sum 12 = .ok (.astore_n 3, 1) := by decide +kernel
theorem dL_sum_13 : decode cL_sum 13 = .ok (.iconst 1, 1) := by decide +kernel
theorem dL_sum_14 : decode cL_sum 14 = .ok (.ireturn, 1) := by decide +kernel
theorem dL_sum_15 : decode cL_sum 15 = .ok (.iconst 0, 1) := by decide +kernel
theorem dL_sum_16 : decode cL_sum 16 = .ok (.ireturn, 1) := by decide +kernel
theorem dL_sumByPapers_0 : decode cL_sumByPapers 0 = .ok (.aload_n 2, 1) := by decide +kernel
theorem dL_sumByPapers_1 : decode cL_sumByPapers 1 = .ok (.iconst 0, 1) := by decide +kernel
theorem dL_sumByPapers_2 : decode cL_sumByPapers 2 = .ok (.aload_n 0, 1) := by decide +kernel
theorem dL_sumByPapers_3 : decode cL_sumByPapers 3 = .ok (.iload_n 1, 1) := by decide +kernel
theorem dL_sumByPapers_4 : decode cL_sumByPapers 4 = .ok (.invokevirtual 102, 3) := by decide +kernel
theorem dL_sumByPapers_7 : decode cL_sumByPapers 7 = .ok (.i2l, 1) := by decide +kernel
theorem dL_sumByPapers_8 : decode cL_sumByPapers 8 = .ok (.lastore, 1) := by decide +kernel
theorem dL_sumByPapers_9 : decode cL_sumByPapers 9 = .ok (.goto 6, 3) := by decide +kernel
theorem dL_sumByPapers_12 : decode cL_sumByPapers 12 = .ok (.astore_n 3, 1) := by decide +kernel
theorem dL_sumByPapers_13 : decode cL_sumByPapers 13 = .ok (.iconst 1, 1) := by decide +kernel
theorem dL_sumByPapers_14 : decode cL_sumByPapers 14 = .ok (.ireturn, 1) := by decide +kernel
theorem dL_sumByPapers_15 : decode cL_sumByPapers 15 = .ok (.iconst 0, 1) := by decide +kernel
theorem dL_sumByPapers_16 : decode cL_sumByPapers 16 = .ok (.ireturn, 1) := by decide +kernel
theorem dL_stands_0 : decode cL_stands 0 = .ok (.aload_n 2, 1) := by decide +kernel
theorem dL_stands_1 : decode cL_stands 1 = .ok (.iconst 0, 1) := by decide +kernel
theorem dL_stands_2 : decode cL_stands 2 = .ok (.aload_n 0, 1) := by decide +kernel
theorem dL_stands_3 : decode cL_stands 3 = .ok (.iload_n 1, 1) := by decide +kernel
theorem dL_stands_4 : decode cL_stands 4 = .ok (.invokevirtual 105, 3) := by decide +kernel
theorem dL_stands_7 : decode cL_stands 7 = .ok (.ifCond .eq 7, 3) := by decide +kernel
theorem dL_stands_10 : decode cL_stands 10 = .ok (.lconst 1, 1) := by decide +kernel
theorem dL_stands_11 : decode cL_stands 11 = .ok (.goto 4, 3) := by decide +kernel
theorem dL_stands_14 : decode cL_stands 14 = .ok (.lconst 0, 1) := by decide +kernel
theorem dL_stands_15 : decode cL_stands 15 = .ok (.lastore, 1) := by decide +kernel
theorem dL_stands_16 : decode cL_stands 16 = .ok (.goto 6, 3) := by decide +kernel
theorem dL_stands_19 : decode cL_stands 19 = .ok (.astore_n 3, 1) := by decide +kernel
theorem dL_stands_20 : decode cL_stands 20 = .ok (.iconst 1, 1) := by decide +kernel
theorem dL_stands_21 : decode cL_stands 21 = .ok (.ireturn, 1) := by decide +kernel
theorem dL_stands_22 : decode cL_stands 22 = .ok (.iconst 0, 1) := by decide +kernel
theorem dL_stands_23 : decode cL_stands 23 = .ok (.ireturn, 1) := by decide +kernel
theorem dL_standsByPapers_0 : decode cL_standsByPapers 0 = .ok (.aload_n 2, 1) := by decide +kernel
theorem dL_standsByPapers_1 : decode cL_standsByPapers 1 = .ok (.iconst 0, 1) := by decide +kernel
theorem dL_standsByPapers_2 : decode cL_standsByPapers 2 = .ok (.aload_n 0, 1) := by decide +kernel
theorem dL_standsByPapers_3 : decode cL_standsByPapers 3 = .ok (.iload_n 1, 1) := by decide +kernel
theorem dL_standsByPapers_4 : decode cL_standsByPapers 4 = .ok (.invokevirtual 109, 3) := by decide +kernel
theorem dL_standsByPapers_7 : decode cL_standsByPapers 7 = .ok (.ifCond .eq 7, 3) := by decide +kernel
theorem dL_standsByPapers_10 : decode cL_standsByPapers 10 = .ok (.lconst 1, 1) := by decide +kernel
theorem dL_standsByPapers_11 : decode cL_standsByPapers 11 = .ok (.goto 4, 3) := by decide +kernel
theorem dL_standsByPapers_14 : decode cL_standsByPapers 14 = .ok (.lconst 0, 1) := by decide +kernel
theorem dL_standsByPapers_15 : decode cL_standsByPapers 15 = .ok (.lastore, 1) := by decide +kernel
theorem dL_standsByPapers_16 : decode cL_standsByPapers 16 = .ok (.goto 6, 3) := by decide +kernel
theorem dL_standsByPapers_19 : decode cL_standsByPapers 19 = .ok (.astore_n 3, 1) := by decide +kernel
theorem dL_standsByPapers_20 : decode cL_standsByPapers 20 = .ok (.iconst 1, 1) := by decide +kernel
theorem dL_standsByPapers_21 : decode cL_standsByPapers 21 = .ok (.ireturn, 1) := by decide +kernel
theorem dL_standsByPapers_22 : decode cL_standsByPapers 22 = .ok (.iconst 0, 1) := by decide +kernel
theorem dL_standsByPapers_23 : decode cL_standsByPapers 23 = .ok (.ireturn, 1) := by decide +kernel
theorem dL_lack_0 : decode cL_lack 0 = .ok (.aload_n 2, 1) := by decide +kernel
theorem dL_lack_1 : decode cL_lack 1 = .ok (.iconst 0, 1) := by decide +kernel
theorem dL_lack_2 : decode cL_lack 2 = .ok (.aload_n 0, 1) := by decide +kernel
theorem dL_lack_3 : decode cL_lack 3 = .ok (.iload_n 1, 1) := by decide +kernel
theorem dL_lack_4 : decode cL_lack 4 = .ok (.invokevirtual 112, 3) := by decide +kernel
theorem dL_lack_7 : decode cL_lack 7 = .ok (.i2l, 1) := by decide +kernel
theorem dL_lack_8 : decode cL_lack 8 = .ok (.lastore, 1) := by decide +kernel
theorem dL_lack_9 : decode cL_lack 9 = .ok (.goto 9, 3) := by decide +kernel
theorem dL_lack_12 : decode cL_lack 12 = .ok (.astore_n 3, 1) := by decide +kernel
theorem dL_lack_13 : decode cL_lack 13 = .ok (.iconst 1, 1) := by decide +kernel
theorem dL_lack_14 : decode cL_lack 14 = .ok (.ireturn, 1) := by decide +kernel
theorem dL_lack_15 : decode cL_lack 15 = .ok (.astore_n 3, 1) := by decide +kernel
theorem dL_lack_16 : decode cL_lack 16 = .ok (.iconst 2, 1) := by decide +kernel
theorem dL_lack_17 : decode cL_lack 17 = .ok (.ireturn, 1) := by decide +kernel
theorem dL_lack_18 : decode cL_lack 18 = .ok (.iconst 0, 1) := by decide +kernel
theorem dL_lack_19 : decode cL_lack 19 = .ok (.ireturn, 1) := by decide +kernel
theorem dL_lackPower_0 : decode cL_lackPower 0 = .ok (.aload_n 2, 1) := by decide +kernel
theorem dL_lackPower_1 : decode cL_lackPower 1 = .ok (.iconst 0, 1) := by decide +kernel
theorem dL_lackPower_2 : decode cL_lackPower 2 = .ok (.aload_n 0, 1) := by decide +kernel
theorem dL_lackPower_3 : decode cL_lackPower 3 = .ok (.iload_n 1, 1) := by decide +kernel
theorem dL_lackPower_4 : decode cL_lackPower 4 = .ok (.invokevirtual 115, 3) := by decide +kernel
theorem dL_lackPower_7 : decode cL_lackPower 7 = .ok (.i2l, 1) := by decide +kernel
theorem dL_lackPower_8 : decode cL_lackPower 8 = .ok (.lastore, 1) := by decide +kernel
theorem dL_lackPower_9 : decode cL_lackPower 9 = .ok (.goto 9, 3) := by decide +kernel
theorem dL_lackPower_12 : decode cL_lackPower 12 = .ok (.astore_n 3, 1) := by decide +kernel
theorem dL_lackPower_13 : decode cL_lackPower 13 = .ok (.iconst 1, 1) := by decide +kernel
theorem dL_lackPower_14 : decode cL_lackPower 14 = .ok (.ireturn, 1) := by decide +kernel
theorem dL_lackPower_15 : decode cL_lackPower 15 = .ok (.astore_n 3, 1) := by decide +kernel
theorem dL_lackPower_16 : decode cL_lackPower 16 = .ok (.iconst 2, 1) := by decide +kernel
theorem dL_lackPower_17 : decode cL_lackPower 17 = .ok (.ireturn, 1) := by decide +kernel
theorem dL_lackPower_18 : decode cL_lackPower 18 = .ok (.iconst 0, 1) := by decide +kernel
theorem dL_lackPower_19 : decode cL_lackPower 19 = .ok (.ireturn, 1) := by decide +kernel
theorem dL_lackDepth_0 : decode cL_lackDepth 0 = .ok (.aload_n 2, 1) := by decide +kernel
theorem dL_lackDepth_1 : decode cL_lackDepth 1 = .ok (.iconst 0, 1) := by decide +kernel
theorem dL_lackDepth_2 : decode cL_lackDepth 2 = .ok (.aload_n 0, 1) := by decide +kernel
theorem dL_lackDepth_3 : decode cL_lackDepth 3 = .ok (.iload_n 1, 1) := by decide +kernel
theorem dL_lackDepth_4 : decode cL_lackDepth 4 = .ok (.invokevirtual 118, 3) := by decide +kernel
theorem dL_lackDepth_7 : decode cL_lackDepth 7 = .ok (.i2l, 1) := by decide +kernel
theorem dL_lackDepth_8 : decode cL_lackDepth 8 = .ok (.lastore, 1) := by decide +kernel
theorem dL_lackDepth_9 : decode cL_lackDepth 9 = .ok (.goto 9, 3) := by decide +kernel
theorem dL_lackDepth_12 : decode cL_lackDepth 12 = .ok (.astore_n 3, 1) := by decide +kernel
theorem dL_lackDepth_13 : decode cL_lackDepth 13 = .ok (.iconst 1, 1) := by decide +kernel
theorem dL_lackDepth_14 : decode cL_lackDepth 14 = .ok (.ireturn, 1) := by decide +kernel
theorem dL_lackDepth_15 : decode cL_lackDepth 15 = .ok (.astore_n 3, 1) := by decide +kernel
theorem dL_lackDepth_16 : decode cL_lackDepth 16 = .ok (.iconst 2, 1) := by decide +kernel
theorem dL_lackDepth_17 : decode cL_lackDepth 17 = .ok (.ireturn, 1) := by decide +kernel
theorem dL_lackDepth_18 : decode cL_lackDepth 18 = .ok (.iconst 0, 1) := by decide +kernel
theorem dL_lackDepth_19 : decode cL_lackDepth 19 = .ok (.ireturn, 1) := by decide +kernel
theorem dL_setWindow_0 : decode cL_setWindow 0 = .ok (.aload_n 2, 1) := by decide +kernel
theorem dL_setWindow_1 : decode cL_setWindow 1 = .ok (.iconst 0, 1) := by decide +kernel
theorem dL_setWindow_2 : decode cL_setWindow 2 = .ok (.aload_n 0, 1) := by decide +kernel
theorem dL_setWindow_3 : decode cL_setWindow 3 = .ok (.iload_n 1, 1) := by decide +kernel
theorem dL_setWindow_4 : decode cL_setWindow 4 = .ok (.invokevirtual 121, 3) := by decide +kernel
theorem dL_setWindow_7 : decode cL_setWindow 7 = .ok (.i2l, 1) := by decide +kernel
theorem dL_setWindow_8 : decode cL_setWindow 8 = .ok (.lastore, 1) := by decide +kernel
theorem dL_setWindow_9 : decode cL_setWindow 9 = .ok (.goto 6, 3) := by decide +kernel
theorem dL_setWindow_12 : decode cL_setWindow 12 = .ok (.astore_n 3, 1) := by decide +kernel
theorem dL_setWindow_13 : decode cL_setWindow 13 = .ok (.iconst 1, 1) := by decide +kernel
theorem dL_setWindow_14 : decode cL_setWindow 14 = .ok (.ireturn, 1) := by decide +kernel
theorem dL_setWindow_15 : decode cL_setWindow 15 = .ok (.iconst 0, 1) := by decide +kernel
theorem dL_setWindow_16 : decode cL_setWindow 16 = .ok (.ireturn, 1) := by decide +kernel
theorem dL_pass_0 : decode cL_pass 0 = .ok (.aload_n 2, 1) := by decide +kernel
theorem dL_pass_1 : decode cL_pass 1 = .ok (.iconst 0, 1) := by decide +kernel
theorem dL_pass_2 : decode cL_pass 2 = .ok (.aload_n 0, 1) := by decide +kernel
theorem dL_pass_3 : decode cL_pass 3 = .ok (.iload_n 1, 1) := by decide +kernel
theorem dL_pass_4 : decode cL_pass 4 = .ok (.invokevirtual 124, 3) := by decide +kernel
theorem dL_pass_7 : decode cL_pass 7 = .ok (.i2l, 1) := by decide +kernel
theorem dL_pass_8 : decode cL_pass 8 = .ok (.lastore, 1) := by decide +kernel
theorem dL_pass_9 : decode cL_pass 9 = .ok (.goto 6, 3) := by decide +kernel
theorem dL_pass_12 : decode cL_pass 12 = .ok (.astore_n 3, 1) := by decide +kernel
theorem dL_pass_13 : decode cL_pass 13 = .ok (.iconst 1, 1) := by decide +kernel
theorem dL_pass_14 : decode cL_pass 14 = .ok (.ireturn, 1) := by decide +kernel
theorem dL_pass_15 : decode cL_pass 15 = .ok (.iconst 0, 1) := by decide +kernel
theorem dL_pass_16 : decode cL_pass 16 = .ok (.ireturn, 1) := by decide +kernel
theorem dL_standingShare_0 : decode cL_standingShare 0 = .ok (.aload_n 1, 1) := by decide +kernel
theorem dL_standingShare_1 : decode cL_standingShare 1 = .ok (.iconst 0, 1) := by decide +kernel
theorem dL_standingShare_2 : decode cL_standingShare 2 = .ok (.aload_n 0, 1) := by decide +kernel
theorem dL_standingShare_3 : decode cL_standingShare 3 = .ok (.invokevirtual 127, 3) := by decide +kernel
theorem dL_standingShare_6 : decode cL_standingShare 6 = .ok (.f2d, 1) := by decide +kernel
theorem dL_standingShare_7 : decode cL_standingShare 7 = .ok (.dastore, 1) := by decide +kernel
theorem dL_standingShare_8 : decode cL_standingShare 8 = .ok (.goto 6, 3) := by decide +kernel
theorem dL_standingShare_11 : decode cL_standingShare 11 = .ok (.astore_n 2, 1) := by decide +kernel
theorem dL_standingShare_12 : decode cL_standingShare 12 = .ok (.iconst 1, 1) := by decide +kernel
theorem dL_standingShare_13 : decode cL_standingShare 13 = .ok (.ireturn, 1) := by decide +kernel
theorem dL_standingShare_14 : decode cL_standingShare 14 = .ok (.iconst 0, 1) := by decide +kernel
theorem dL_standingShare_15 : decode cL_standingShare 15 = .ok (.ireturn, 1) := by decide +kernel
