def RX0 : String := "Signatory$Deed"
def TX0 : u_T := fun k => match k with
  | 0 => ("Signatory$Deed", "number", "I", true)
  | 1 => ("Signatory$Deed", "signer", "I", true)
  | 2 => ("Signatory$Deed", "other", "I", true)
  | 3 => ("Signatory$Deed", "kind", "I", true)
  | 4 => ("Signatory$Deed", "amount", "I", true)
  | 5 => ("Signatory$Deed", "party", "I", true)
  | 6 => ("Signatory$Deed", "signedOn", "I", false)
  | 7 => ("Signatory$Deed", "papersWhenSigned", "I", false)
  | 8 => ("Signatory$Deed", "sum", "I", false)
  | 9 => ("Signatory$Deed", "status", "C", false)
  | 10 => ("Signatory$Deed", "lack", "C", false)
  | 11 => ("Signatory$Deed", "lackPower", "I", false)
  | 12 => ("Signatory$Deed", "lackDepth", "I", false)
  | 13 => ("Signatory$Deed", "ratifier", "I", false)
  | 14 => ("Signatory$Deed", "ratifiedOn", "I", false)
  | _ => ("Signatory$Deed", "papersWhenRatified", "I", false)
def tyX0 : Nat → FieldType := fun k => match k with
  | 0 => .int
  | 1 => .int
  | 2 => .int
  | 3 => .int
  | 4 => .int
  | 5 => .int
  | 6 => .int
  | 7 => .int
  | 8 => .int
  | 9 => .char
  | 10 => .char
  | 11 => .int
  | 12 => .int
  | 13 => .int
  | 14 => .int
  | _ => .int
theorem nmX0 : ∀ a, a < 16 → ∀ b, b < 16 → a ≠ b → (TX0 a).2.1 ≠ (TX0 b).2.1 := by decide +kernel
theorem tyX0_ok : ∀ k, k < 16 → parseFieldDescriptor (TX0 k).2.2.1 = some (tyX0 k) := by decide +kernel
abbrev cX0_init : ByteArray := prog_2_method_1_code
def yX0_init : MethodName := ⟨RX0, "<init>", "(IIIIII)V"⟩
abbrev cX0_isStanding : ByteArray := prog_2_method_2_code
def yX0_isStanding : MethodName := ⟨RX0, "isStanding", "()Z"⟩
def RX1 : String := "Signatory$Moment"
def TX1 : u_T := fun k => match k with
  | 0 => ("Signatory$Moment", "limits", "[I", true)
  | 1 => ("Signatory$Moment", "revoked", "[Z", true)
  | 2 => ("Signatory$Moment", "substitutes", "[I", true)
  | 3 => ("Signatory$Moment", "annulled", "[Z", true)
  | 4 => ("Signatory$Moment", "window", "I", false)
  | _ => ("Signatory$Moment", "day", "I", false)
def tyX1 : Nat → FieldType := fun k => match k with
  | 0 => .array .int
  | 1 => .array .boolean
  | 2 => .array .int
  | 3 => .array .boolean
  | 4 => .int
  | _ => .int
theorem nmX1 : ∀ a, a < 6 → ∀ b, b < 6 → a ≠ b → (TX1 a).2.1 ≠ (TX1 b).2.1 := by decide +kernel
theorem tyX1_ok : ∀ k, k < 6 → parseFieldDescriptor (TX1 k).2.2.1 = some (tyX1 k) := by decide +kernel
abbrev cX1_init : ByteArray := prog_3_method_1_code
def yX1_init : MethodName := ⟨RX1, "<init>", "()V"⟩
abbrev cX1_forget : ByteArray := prog_3_method_2_code
def yX1_forget : MethodName := ⟨RX1, "forget", "()V"⟩
abbrev cX1_take : ByteArray := prog_3_method_3_code
def yX1_take : MethodName := ⟨RX1, "take", "(LSignatory$Paper;)V"⟩
abbrev cX1_limitOf : ByteArray := prog_3_method_4_code
def yX1_limitOf : MethodName := ⟨RX1, "limitOf", "(LSignatory$Power;)I"⟩
abbrev cX1_isRevoked : ByteArray := prog_3_method_5_code
def yX1_isRevoked : MethodName := ⟨RX1, "isRevoked", "(LSignatory$Power;)Z"⟩
abbrev cX1_isAnnulled : ByteArray := prog_3_method_6_code
def yX1_isAnnulled : MethodName := ⟨RX1, "isAnnulled", "(LSignatory$Deed;)Z"⟩
abbrev cX1_substituteFor : ByteArray := prog_3_method_7_code
def yX1_substituteFor : MethodName := ⟨RX1, "substituteFor", "(I)I"⟩
abbrev cX1_actsByPowersOf : ByteArray := prog_3_method_8_code
def yX1_actsByPowersOf : MethodName := ⟨RX1, "actsByPowersOf", "(II)Z"⟩
abbrev cX1_ownFault : ByteArray := prog_3_method_9_code
def yX1_ownFault : MethodName := ⟨RX1, "ownFault", "(LSignatory$Power;I)C"⟩
abbrev cX1_faultOf : ByteArray := prog_3_method_10_code
def yX1_faultOf : MethodName := ⟨RX1, "faultOf", "(LSignatory$Power;I)C"⟩
abbrev cX1_stepsToFault : ByteArray := prog_3_method_11_code
def yX1_stepsToFault : MethodName := ⟨RX1, "stepsToFault", "(LSignatory$Power;I)I"⟩
def RX2 : String := "Signatory$Paper"
def TX2 : u_T := fun k => match k with
  | 0 => ("Signatory$Paper", "matter", "I", true)
  | 1 => ("Signatory$Paper", "subject", "I", true)
  | _ => ("Signatory$Paper", "value", "I", true)
def tyX2 : Nat → FieldType := fun k => match k with
  | 0 => .int
  | 1 => .int
  | _ => .int
theorem nmX2 : ∀ a, a < 3 → ∀ b, b < 3 → a ≠ b → (TX2 a).2.1 ≠ (TX2 b).2.1 := by decide +kernel
theorem tyX2_ok : ∀ k, k < 3 → parseFieldDescriptor (TX2 k).2.2.1 = some (tyX2 k) := by decide +kernel
abbrev cX2_init : ByteArray := prog_4_method_1_code
def yX2_init : MethodName := ⟨RX2, "<init>", "(III)V"⟩
def RX3 : String := "Signatory$Power"
def TX3 : u_T := fun k => match k with
  | 0 => ("Signatory$Power", "number", "I", true)
  | 1 => ("Signatory$Power", "holder", "I", true)
  | 2 => ("Signatory$Power", "kind", "I", true)
  | 3 => ("Signatory$Power", "hand", "I", true)
  | 4 => ("Signatory$Power", "first", "I", true)
  | 5 => ("Signatory$Power", "last", "I", true)
  | _ => ("Signatory$Power", "source", "LSignatory$Power;", true)
def tyX3 : Nat → FieldType := fun k => match k with
  | 0 => .int
  | 1 => .int
  | 2 => .int
  | 3 => .int
  | 4 => .int
  | 5 => .int
  | _ => .object "Signatory$Power"
theorem nmX3 : ∀ a, a < 7 → ∀ b, b < 7 → a ≠ b → (TX3 a).2.1 ≠ (TX3 b).2.1 := by decide +kernel
theorem tyX3_ok : ∀ k, k < 7 → parseFieldDescriptor (TX3 k).2.2.1 = some (tyX3 k) := by decide +kernel
abbrev cX3_init : ByteArray := prog_5_method_1_code
def yX3_init : MethodName := ⟨RX3, "<init>", "(IIIIIILSignatory$Power;)V"⟩
abbrev cX3_comesFrom : ByteArray := prog_5_method_2_code
def yX3_comesFrom : MethodName := ⟨RX3, "comesFrom", "(LSignatory$Power;)Z"⟩
def RX4 : String := "Signatory"
def TX4 : u_T := fun k => match k with
  | 0 => ("Signatory", "powers", "Ljava/util/List;", true)
  | 1 => ("Signatory", "deeds", "Ljava/util/List;", true)
  | 2 => ("Signatory", "papers", "Ljava/util/List;", true)
  | 3 => ("Signatory", "now", "LSignatory$Moment;", true)
  | 4 => ("Signatory", "past", "LSignatory$Moment;", true)
  | _ => ("Signatory", "personCount", "I", false)
def tyX4 : Nat → FieldType := fun k => match k with
  | 0 => .object "java/util/List"
  | 1 => .object "java/util/List"
  | 2 => .object "java/util/List"
  | 3 => .object "Signatory$Moment"
  | 4 => .object "Signatory$Moment"
  | _ => .int
theorem nmX4 : ∀ a, a < 6 → ∀ b, b < 6 → a ≠ b → (TX4 a).2.1 ≠ (TX4 b).2.1 := by decide +kernel
theorem tyX4_ok : ∀ k, k < 6 → parseFieldDescriptor (TX4 k).2.2.1 = some (tyX4 k) := by decide +kernel
abbrev cX4_init : ByteArray := prog_1_method_1_code
def yX4_init : MethodName := ⟨RX4, "<init>", "()V"⟩
abbrev cX4_addPerson : ByteArray := prog_1_method_2_code
def yX4_addPerson : MethodName := ⟨RX4, "addPerson", "()I"⟩
abbrev cX4_leave : ByteArray := prog_1_method_3_code
def yX4_leave : MethodName := ⟨RX4, "leave", "(II)I"⟩
abbrev cX4_comeBack : ByteArray := prog_1_method_4_code
def yX4_comeBack : MethodName := ⟨RX4, "comeBack", "(I)I"⟩
abbrev cX4_grant : ByteArray := prog_1_method_6_code
def yX4_grant : MethodName := ⟨RX4, "grant", "(IICIII)I"⟩
abbrev cX4_delegate : ByteArray := prog_1_method_7_code
def yX4_delegate : MethodName := ⟨RX4, "delegate", "(IIIII)I"⟩
abbrev cX4_lower : ByteArray := prog_1_method_8_code
def yX4_lower : MethodName := ⟨RX4, "lower", "(II)I"⟩
abbrev cX4_revoke : ByteArray := prog_1_method_9_code
def yX4_revoke : MethodName := ⟨RX4, "revoke", "(I)I"⟩
abbrev cX4_sign : ByteArray := prog_1_method_20_code
def yX4_sign : MethodName := ⟨RX4, "sign", "(IIII)I"⟩
abbrev cX4_signTogether : ByteArray := prog_1_method_21_code
def yX4_signTogether : MethodName := ⟨RX4, "signTogether", "(IIIII)I"⟩
abbrev cX4_ratify : ByteArray := prog_1_method_22_code
def yX4_ratify : MethodName := ⟨RX4, "ratify", "(II)I"⟩
abbrev cX4_annul : ByteArray := prog_1_method_23_code
def yX4_annul : MethodName := ⟨RX4, "annul", "(I)I"⟩
abbrev cX4_status : ByteArray := prog_1_method_24_code
def yX4_status : MethodName := ⟨RX4, "status", "(I)C"⟩
abbrev cX4_sum : ByteArray := prog_1_method_25_code
def yX4_sum : MethodName := ⟨RX4, "sum", "(I)I"⟩
abbrev cX4_stands : ByteArray := prog_1_method_27_code
def yX4_stands : MethodName := ⟨RX4, "stands", "(I)Z"⟩
abbrev cX4_lack : ByteArray := prog_1_method_29_code
def yX4_lack : MethodName := ⟨RX4, "lack", "(I)C"⟩
abbrev cX4_lackPower : ByteArray := prog_1_method_30_code
def yX4_lackPower : MethodName := ⟨RX4, "lackPower", "(I)I"⟩
abbrev cX4_lackDepth : ByteArray := prog_1_method_31_code
def yX4_lackDepth : MethodName := ⟨RX4, "lackDepth", "(I)I"⟩
abbrev cX4_setWindow : ByteArray := prog_1_method_32_code
def yX4_setWindow : MethodName := ⟨RX4, "setWindow", "(I)I"⟩
abbrev cX4_pass : ByteArray := prog_1_method_33_code
def yX4_pass : MethodName := ⟨RX4, "pass", "(I)I"⟩
abbrev cX4_today : ByteArray := prog_1_method_34_code
def yX4_today : MethodName := ⟨RX4, "today", "()I"⟩
abbrev cX4_bound : ByteArray := prog_1_method_35_code
def yX4_bound : MethodName := ⟨RX4, "bound", "()J"⟩
abbrev cX4_standingShare : ByteArray := prog_1_method_36_code
def yX4_standingShare : MethodName := ⟨RX4, "standingShare", "()F"⟩
abbrev cX4_isBetween : ByteArray := prog_1_method_37_code
def yX4_isBetween : MethodName := ⟨RX4, "isBetween", "(III)Z"⟩
abbrev cX4_isIndex : ByteArray := prog_1_method_38_code
def yX4_isIndex : MethodName := ⟨RX4, "isIndex", "(II)Z"⟩
abbrev cX4_requirePerson : ByteArray := prog_1_method_39_code
def yX4_requirePerson : MethodName := ⟨RX4, "requirePerson", "(I)V"⟩
abbrev cX4_findPower : ByteArray := prog_1_method_40_code
def yX4_findPower : MethodName := ⟨RX4, "findPower", "(I)LSignatory$Power;"⟩
abbrev cX4_findDeed : ByteArray := prog_1_method_41_code
def yX4_findDeed : MethodName := ⟨RX4, "findDeed", "(I)LSignatory$Deed;"⟩
abbrev cX4_requireKind : ByteArray := prog_1_method_42_code
def yX4_requireKind : MethodName := ⟨RX4, "requireKind", "(I)V"⟩
abbrev cX4_requireLimitAndDays : ByteArray := prog_1_method_44_code
def yX4_requireLimitAndDays : MethodName := ⟨RX4, "requireLimitAndDays", "(III)V"⟩
abbrev cX4_requireDealing : ByteArray := prog_1_method_45_code
def yX4_requireDealing : MethodName := ⟨RX4, "requireDealing", "(III)V"⟩
abbrev cX4_requireDayCount : ByteArray := prog_1_method_46_code
def yX4_requireDayCount : MethodName := ⟨RX4, "requireDayCount", "(I)V"⟩
abbrev cX4_requireTwo : ByteArray := prog_1_method_47_code
def yX4_requireTwo : MethodName := ⟨RX4, "requireTwo", "(II)V"⟩
abbrev cX4_requireRoomForPower : ByteArray := prog_1_method_48_code
def yX4_requireRoomForPower : MethodName := ⟨RX4, "requireRoomForPower", "()V"⟩
abbrev cX4_requireRoomForDeed : ByteArray := prog_1_method_49_code
def yX4_requireRoomForDeed : MethodName := ⟨RX4, "requireRoomForDeed", "()V"⟩
abbrev cX4_requireWaiting : ByteArray := prog_1_method_50_code
def yX4_requireWaiting : MethodName := ⟨RX4, "requireWaiting", "(LSignatory$Deed;)V"⟩
abbrev cX4_requireLackingPower : ByteArray := prog_1_method_51_code
def yX4_requireLackingPower : MethodName := ⟨RX4, "requireLackingPower", "(LSignatory$Deed;)V"⟩
abbrev cX4_tell : ByteArray := prog_1_method_52_code
def yX4_tell : MethodName := ⟨RX4, "tell", "(III)V"⟩
abbrev cX4_bitOfHand : ByteArray := prog_1_method_54_code
def yX4_bitOfHand : MethodName := ⟨RX4, "bitOfHand", "(C)I"⟩
abbrev cX4_keepPower : ByteArray := prog_1_method_55_code
def yX4_keepPower : MethodName := ⟨RX4, "keepPower", "(LSignatory$Power;I)I"⟩
abbrev cX4_countPowersFrom : ByteArray := prog_1_method_56_code
def yX4_countPowersFrom : MethodName := ⟨RX4, "countPowersFrom", "(LSignatory$Power;)I"⟩
abbrev cX4_substituteOrNone : ByteArray := prog_1_method_57_code
def yX4_substituteOrNone : MethodName := ⟨RX4, "substituteOrNone", "(I)I"⟩
abbrev cX4_handsOf : ByteArray := prog_1_method_58_code
def yX4_handsOf : MethodName := ⟨RX4, "handsOf", "(IIILSignatory$Moment;)I"⟩
abbrev cX4_signsAlone : ByteArray := prog_1_method_59_code
def yX4_signsAlone : MethodName := ⟨RX4, "signsAlone", "(IIILSignatory$Moment;)Z"⟩
abbrev cX4_suffice : ByteArray := prog_1_method_61_code
def yX4_suffice : MethodName := ⟨RX4, "suffice", "(II)Z"⟩
abbrev cX4_keepDeed : ByteArray := prog_1_method_63_code
def yX4_keepDeed : MethodName := ⟨RX4, "keepDeed", "(LSignatory$Deed;)I"⟩
abbrev cX4_addUp : ByteArray := prog_1_method_64_code
def yX4_addUp : MethodName := ⟨RX4, "addUp", "(LSignatory$Deed;LSignatory$Moment;)I"⟩
abbrev cX4_signersSuffice : ByteArray := prog_1_method_65_code
def yX4_signersSuffice : MethodName := ⟨RX4, "signersSuffice", "(LSignatory$Deed;ILSignatory$Moment;)Z"⟩
abbrev cX4_findLack : ByteArray := prog_1_method_66_code
def yX4_findLack : MethodName := ⟨RX4, "findLack", "(LSignatory$Deed;)V"⟩
abbrev cX4_signersActBy : ByteArray := prog_1_method_67_code
def yX4_signersActBy : MethodName := ⟨RX4, "signersActBy", "(LSignatory$Power;LSignatory$Deed;)Z"⟩
abbrev cX4_noteLack : ByteArray := prog_1_method_68_code
def yX4_noteLack : MethodName := ⟨RX4, "noteLack", "(LSignatory$Deed;LSignatory$Power;)V"⟩
abbrev cX4_countWaiting : ByteArray := prog_1_method_69_code
def yX4_countWaiting : MethodName := ⟨RX4, "countWaiting", "()I"⟩
def RX5 : String := "SignatoryModel"
def TX5 : u_T := fun k => match k with
  | _ => ("", "", "", false)
def tyX5 : Nat → FieldType := fun k => match k with
  | _ => .int
theorem nmX5 : ∀ a, a < 0 → ∀ b, b < 0 → a ≠ b → (TX5 a).2.1 ≠ (TX5 b).2.1 := by decide +kernel
theorem tyX5_ok : ∀ k, k < 0 → parseFieldDescriptor (TX5 k).2.2.1 = some (tyX5 k) := by decide +kernel
def RJx145de : String := "java/io/Serializable"
def TJx145de : u_T := fun k => match k with
  | _ => ("", "", "", false)
def tyJx145de : Nat → FieldType := fun k => match k with
  | _ => .int
theorem nmJx145de : ∀ a, a < 0 → ∀ b, b < 0 → a ≠ b → (TJx145de a).2.1 ≠ (TJx145de b).2.1 := by decide +kernel
theorem tyJx145de_ok : ∀ k, k < 0 → parseFieldDescriptor (TJx145de k).2.2.1 = some (tyJx145de k) := by decide +kernel
def RJx9f9b0 : String := "java/lang/CharSequence"
def TJx9f9b0 : u_T := fun k => match k with
  | _ => ("", "", "", false)
def tyJx9f9b0 : Nat → FieldType := fun k => match k with
  | _ => .int
theorem nmJx9f9b0 : ∀ a, a < 0 → ∀ b, b < 0 → a ≠ b → (TJx9f9b0 a).2.1 ≠ (TJx9f9b0 b).2.1 := by decide +kernel
theorem tyJx9f9b0_ok : ∀ k, k < 0 → parseFieldDescriptor (TJx9f9b0 k).2.2.1 = some (tyJx9f9b0 k) := by decide +kernel
def RJ11 : String := "java/lang/Character"
def TJ11 : u_T := fun k => match k with
  | _ => ("", "", "", false)
def tyJ11 : Nat → FieldType := fun k => match k with
  | _ => .int
theorem nmJ11 : ∀ a, a < 0 → ∀ b, b < 0 → a ≠ b → (TJ11 a).2.1 ≠ (TJ11 b).2.1 := by decide +kernel
theorem tyJ11_ok : ∀ k, k < 0 → parseFieldDescriptor (TJ11 k).2.2.1 = some (tyJ11 k) := by decide +kernel
abbrev cJ11_isValidCodePoint_9a6ad : ByteArray := prog_10_method_11_code
def yJ11_isValidCodePoint_9a6ad : MethodName := ⟨RJ11, "isValidCodePoint", "(I)Z"⟩
abbrev cJ11_highSurrogate_5068e : ByteArray := prog_10_method_28_code
def yJ11_highSurrogate_5068e : MethodName := ⟨RJ11, "highSurrogate", "(I)C"⟩
abbrev cJ11_lowSurrogate_5068e : ByteArray := prog_10_method_29_code
def yJ11_lowSurrogate_5068e : MethodName := ⟨RJ11, "lowSurrogate", "(I)C"⟩
def RJx8e188 : String := "java/lang/Cloneable"
def TJx8e188 : u_T := fun k => match k with
  | _ => ("", "", "", false)
def tyJx8e188 : Nat → FieldType := fun k => match k with
  | _ => .int
theorem nmJx8e188 : ∀ a, a < 0 → ∀ b, b < 0 → a ≠ b → (TJx8e188 a).2.1 ≠ (TJx8e188 b).2.1 := by decide +kernel
theorem tyJx8e188_ok : ∀ k, k < 0 → parseFieldDescriptor (TJx8e188 k).2.2.1 = some (tyJx8e188 k) := by decide +kernel
def RJxb160c : String := "java/lang/Comparable"
def TJxb160c : u_T := fun k => match k with
  | _ => ("", "", "", false)
def tyJxb160c : Nat → FieldType := fun k => match k with
  | _ => .int
theorem nmJxb160c : ∀ a, a < 0 → ∀ b, b < 0 → a ≠ b → (TJxb160c a).2.1 ≠ (TJxb160c b).2.1 := by decide +kernel
theorem tyJxb160c_ok : ∀ k, k < 0 → parseFieldDescriptor (TJxb160c k).2.2.1 = some (tyJxb160c k) := by decide +kernel
def RJxab1ab : String := "java/lang/Iterable"
def TJxab1ab : u_T := fun k => match k with
  | _ => ("", "", "", false)
def tyJxab1ab : Nat → FieldType := fun k => match k with
  | _ => .int
theorem nmJxab1ab : ∀ a, a < 0 → ∀ b, b < 0 → a ≠ b → (TJxab1ab a).2.1 ≠ (TJxab1ab b).2.1 := by decide +kernel
theorem tyJxab1ab_ok : ∀ k, k < 0 → parseFieldDescriptor (TJxab1ab k).2.2.1 = some (tyJxab1ab k) := by decide +kernel
def RJ9 : String := "java/lang/Math"
def TJ9 : u_T := fun k => match k with
  | _ => ("", "", "", false)
def tyJ9 : Nat → FieldType := fun k => match k with
  | _ => .int
theorem nmJ9 : ∀ a, a < 0 → ∀ b, b < 0 → a ≠ b → (TJ9 a).2.1 ≠ (TJ9 b).2.1 := by decide +kernel
theorem tyJ9_ok : ∀ k, k < 0 → parseFieldDescriptor (TJ9 k).2.2.1 = some (tyJ9 k) := by decide +kernel
abbrev cJ9_max_7cf53 : ByteArray := prog_18_method_65_code
def yJ9_max_7cf53 : MethodName := ⟨RJ9, "max", "(II)I"⟩
abbrev cJ9_min_7cf53 : ByteArray := prog_18_method_69_code
def yJ9_min_7cf53 : MethodName := ⟨RJ9, "min", "(II)I"⟩
def RJ0 : String := "java/lang/String"
def TJ0 : u_T := fun k => match k with
  | _ => ("", "", "", false)
def tyJ0 : Nat → FieldType := fun k => match k with
  | _ => .int
theorem nmJ0 : ∀ a, a < 0 → ∀ b, b < 0 → a ≠ b → (TJ0 a).2.1 ≠ (TJ0 b).2.1 := by decide +kernel
theorem tyJ0_ok : ∀ k, k < 0 → parseFieldDescriptor (TJ0 k).2.2.1 = some (tyJ0 k) := by decide +kernel
abbrev cJ0_length_8abf5 : ByteArray := prog_20_method_54_code
def yJ0_length_8abf5 : MethodName := ⟨RJ0, "length", "()I"⟩
abbrev cJ0_indexOf_0f7a4 : ByteArray := prog_20_method_79_code
def yJ0_indexOf_0f7a4 : MethodName := ⟨RJ0, "indexOf", "(I)I"⟩
abbrev cJ0_indexOf_7cf53 : ByteArray := prog_20_method_80_code
def yJ0_indexOf_7cf53 : MethodName := ⟨RJ0, "indexOf", "(II)I"⟩
abbrev cJ0_coder_7d493 : ByteArray := prog_20_method_152_code
def yJ0_coder_7d493 : MethodName := ⟨RJ0, "coder", "()B"⟩
abbrev cJ0_isLatin1_aae02 : ByteArray := prog_20_method_154_code
def yJ0_isLatin1_aae02 : MethodName := ⟨RJ0, "isLatin1", "()Z"⟩
abbrev cJ0_checkBoundsBeginEnd_23922 : ByteArray := prog_20_method_158_code
def yJ0_checkBoundsBeginEnd_23922 : MethodName := ⟨RJ0, "checkBoundsBeginEnd", "(III)V"⟩
def RJ1 : String := "java/lang/StringLatin1"
def TJ1 : u_T := fun k => match k with
  | _ => ("", "", "", false)
def tyJ1 : Nat → FieldType := fun k => match k with
  | _ => .int
theorem nmJ1 : ∀ a, a < 0 → ∀ b, b < 0 → a ≠ b → (TJ1 a).2.1 ≠ (TJ1 b).2.1 := by decide +kernel
theorem tyJ1_ok : ∀ k, k < 0 → parseFieldDescriptor (TJ1 k).2.2.1 = some (tyJ1 k) := by decide +kernel
abbrev cJ1_canEncode_9a6ad : ByteArray := prog_21_method_4_code
def yJ1_canEncode_9a6ad : MethodName := ⟨RJ1, "canEncode", "(I)Z"⟩
abbrev cJ1_indexOf_4cfef : ByteArray := prog_21_method_22_code
def yJ1_indexOf_4cfef : MethodName := ⟨RJ1, "indexOf", "([BIII)I"⟩
abbrev cJ1_indexOfChar_4cfef : ByteArray := prog_21_method_23_code
def yJ1_indexOfChar_4cfef : MethodName := ⟨RJ1, "indexOfChar", "([BIII)I"⟩
def RJ2 : String := "java/lang/StringUTF16"
def TJ2 : u_T := fun k => match k with
  | _ => ("", "", "", false)
def tyJ2 : Nat → FieldType := fun k => match k with
  | _ => .int
theorem nmJ2 : ∀ a, a < 0 → ∀ b, b < 0 → a ≠ b → (TJ2 a).2.1 ≠ (TJ2 b).2.1 := by decide +kernel
theorem tyJ2_ok : ∀ k, k < 0 → parseFieldDescriptor (TJ2 k).2.2.1 = some (tyJ2 k) := by decide +kernel
abbrev cJ2_getChar_3b067 : ByteArray := prog_22_method_5_code
def yJ2_getChar_3b067 : MethodName := ⟨RJ2, "getChar", "([BI)C"⟩
abbrev cJ2_length_9d52b : ByteArray := prog_22_method_6_code
def yJ2_length_9d52b : MethodName := ⟨RJ2, "length", "([B)I"⟩
abbrev cJ2_indexOf_4cfef : ByteArray := prog_22_method_40_code
def yJ2_indexOf_4cfef : MethodName := ⟨RJ2, "indexOf", "([BIII)I"⟩
abbrev cJ2_indexOfChar_4cfef : ByteArray := prog_22_method_47_code
def yJ2_indexOfChar_4cfef : MethodName := ⟨RJ2, "indexOfChar", "([BIII)I"⟩
abbrev cJ2_indexOfCharUnsafe_4cfef : ByteArray := prog_22_method_48_code
def yJ2_indexOfCharUnsafe_4cfef : MethodName := ⟨RJ2, "indexOfCharUnsafe", "([BIII)I"⟩
abbrev cJ2_indexOfSupplementary_4cfef : ByteArray := prog_22_method_49_code
def yJ2_indexOfSupplementary_4cfef : MethodName := ⟨RJ2, "indexOfSupplementary", "([BIII)I"⟩
abbrev cJ2_checkBoundsBeginEnd_d044e : ByteArray := prog_22_method_93_code
def yJ2_checkBoundsBeginEnd_d044e : MethodName := ⟨RJ2, "checkBoundsBeginEnd", "(II[B)V"⟩
def RJ10 : String := "java/lang/System"
def TJ10 : u_T := fun k => match k with
  | _ => ("", "", "", false)
def tyJ10 : Nat → FieldType := fun k => match k with
  | _ => .int
theorem nmJ10 : ∀ a, a < 0 → ∀ b, b < 0 → a ≠ b → (TJ10 a).2.1 ≠ (TJ10 b).2.1 := by decide +kernel
theorem tyJ10_ok : ∀ k, k < 0 → parseFieldDescriptor (TJ10 k).2.2.1 = some (tyJ10 k) := by decide +kernel
def RJxfd54e : String := "java/lang/constant/Constable"
def TJxfd54e : u_T := fun k => match k with
  | _ => ("", "", "", false)
def tyJxfd54e : Nat → FieldType := fun k => match k with
  | _ => .int
theorem nmJxfd54e : ∀ a, a < 0 → ∀ b, b < 0 → a ≠ b → (TJxfd54e a).2.1 ≠ (TJxfd54e b).2.1 := by decide +kernel
theorem tyJxfd54e_ok : ∀ k, k < 0 → parseFieldDescriptor (TJxfd54e k).2.2.1 = some (tyJxfd54e k) := by decide +kernel
def RJx3cf43 : String := "java/lang/constant/ConstantDesc"
def TJx3cf43 : u_T := fun k => match k with
  | _ => ("", "", "", false)
def tyJx3cf43 : Nat → FieldType := fun k => match k with
  | _ => .int
theorem nmJx3cf43 : ∀ a, a < 0 → ∀ b, b < 0 → a ≠ b → (TJx3cf43 a).2.1 ≠ (TJx3cf43 b).2.1 := by decide +kernel
theorem tyJx3cf43_ok : ∀ k, k < 0 → parseFieldDescriptor (TJx3cf43 k).2.2.1 = some (tyJx3cf43 k) := by decide +kernel
def RJxa1e45 : String := "java/util/AbstractCollection"
def TJxa1e45 : u_T := fun k => match k with
  | _ => ("", "", "", false)
def tyJxa1e45 : Nat → FieldType := fun k => match k with
  | _ => .int
theorem nmJxa1e45 : ∀ a, a < 0 → ∀ b, b < 0 → a ≠ b → (TJxa1e45 a).2.1 ≠ (TJxa1e45 b).2.1 := by decide +kernel
theorem tyJxa1e45_ok : ∀ k, k < 0 → parseFieldDescriptor (TJxa1e45 k).2.2.1 = some (tyJxa1e45 k) := by decide +kernel
abbrev cJxa1e45_init_da8c8 : ByteArray := prog_28_method_1_code
def yJxa1e45_init_da8c8 : MethodName := ⟨RJxa1e45, "<init>", "()V"⟩
def RJxc12de : String := "java/util/AbstractList"
def TJxc12de : u_T := fun k => match k with
  | _ => ("", "", "", false)
def tyJxc12de : Nat → FieldType := fun k => match k with
  | _ => .int
theorem nmJxc12de : ∀ a, a < 0 → ∀ b, b < 0 → a ≠ b → (TJxc12de a).2.1 ≠ (TJxc12de b).2.1 := by decide +kernel
theorem tyJxc12de_ok : ∀ k, k < 0 → parseFieldDescriptor (TJxc12de k).2.2.1 = some (tyJxc12de k) := by decide +kernel
abbrev cJxc12de_init_da8c8 : ByteArray := prog_29_method_1_code
def yJxc12de_init_da8c8 : MethodName := ⟨RJxc12de, "<init>", "()V"⟩
def RJx4a65c : String := "java/util/ArrayList"
def TJx4a65c : u_T := fun k => match k with
  | 0 => ("java/util/AbstractList", "modCount", "I", false)
  | 1 => ("java/util/ArrayList", "elementData", "[Ljava/lang/Object;", false)
  | _ => ("java/util/ArrayList", "size", "I", false)
def tyJx4a65c : Nat → FieldType := fun k => match k with
  | 0 => .int
  | 1 => .array (.object "java/lang/Object")
  | _ => .int
theorem nmJx4a65c : ∀ a, a < 3 → ∀ b, b < 3 → a ≠ b → (TJx4a65c a).2.1 ≠ (TJx4a65c b).2.1 := by decide +kernel
theorem tyJx4a65c_ok : ∀ k, k < 3 → parseFieldDescriptor (TJx4a65c k).2.2.1 = some (tyJx4a65c k) := by decide +kernel
abbrev cJx4a65c_init_da8c8 : ByteArray := prog_30_method_2_code
def yJx4a65c_init_da8c8 : MethodName := ⟨RJx4a65c, "<init>", "()V"⟩
abbrev cJx4a65c_grow_92f84 : ByteArray := prog_30_method_6_code
def yJx4a65c_grow_92f84 : MethodName := ⟨RJx4a65c, "grow", "(I)[Ljava/lang/Object;"⟩
abbrev cJx4a65c_grow_d5877 : ByteArray := prog_30_method_7_code
def yJx4a65c_grow_d5877 : MethodName := ⟨RJx4a65c, "grow", "()[Ljava/lang/Object;"⟩
abbrev cJx4a65c_size_8abf5 : ByteArray := prog_30_method_8_code
def yJx4a65c_size_8abf5 : MethodName := ⟨RJx4a65c, "size", "()I"⟩
abbrev cJx4a65c_elementData_915e3 : ByteArray := prog_30_method_18_code
def yJx4a65c_elementData_915e3 : MethodName := ⟨RJx4a65c, "elementData", "(I)Ljava/lang/Object;"⟩
abbrev cJx4a65c_get_915e3 : ByteArray := prog_30_method_20_code
def yJx4a65c_get_915e3 : MethodName := ⟨RJx4a65c, "get", "(I)Ljava/lang/Object;"⟩
abbrev cJx4a65c_add_72be8 : ByteArray := prog_30_method_24_code
def yJx4a65c_add_72be8 : MethodName := ⟨RJx4a65c, "add", "(Ljava/lang/Object;[Ljava/lang/Object;I)V"⟩
abbrev cJx4a65c_add_9ea2d : ByteArray := prog_30_method_25_code
def yJx4a65c_add_9ea2d : MethodName := ⟨RJx4a65c, "add", "(Ljava/lang/Object;)Z"⟩
def RJ7 : String := "java/util/Arrays"
def TJ7 : u_T := fun k => match k with
  | _ => ("", "", "", false)
def tyJ7 : Nat → FieldType := fun k => match k with
  | _ => .int
theorem nmJ7 : ∀ a, a < 0 → ∀ b, b < 0 → a ≠ b → (TJ7 a).2.1 ≠ (TJ7 b).2.1 := by decide +kernel
theorem tyJ7_ok : ∀ k, k < 0 → parseFieldDescriptor (TJ7 k).2.2.1 = some (tyJ7 k) := by decide +kernel
abbrev cJ7_copyOf_1904c : ByteArray := prog_31_method_119_code
def yJ7_copyOf_1904c : MethodName := ⟨RJ7, "copyOf", "([Ljava/lang/Object;I)[Ljava/lang/Object;"⟩
abbrev cJ7_copyOf_6403c : ByteArray := prog_31_method_120_code
def yJ7_copyOf_6403c : MethodName := ⟨RJ7, "copyOf", "([Ljava/lang/Object;ILjava/lang/Class;)[Ljava/lang/Object;"⟩
def RJx5ef63 : String := "java/util/Collection"
def TJx5ef63 : u_T := fun k => match k with
  | _ => ("", "", "", false)
def tyJx5ef63 : Nat → FieldType := fun k => match k with
  | _ => .int
theorem nmJx5ef63 : ∀ a, a < 0 → ∀ b, b < 0 → a ≠ b → (TJx5ef63 a).2.1 ≠ (TJx5ef63 b).2.1 := by decide +kernel
theorem tyJx5ef63_ok : ∀ k, k < 0 → parseFieldDescriptor (TJx5ef63 k).2.2.1 = some (tyJx5ef63 k) := by decide +kernel
def RJxbd725 : String := "java/util/List"
def TJxbd725 : u_T := fun k => match k with
  | _ => ("", "", "", false)
def tyJxbd725 : Nat → FieldType := fun k => match k with
  | _ => .int
theorem nmJxbd725 : ∀ a, a < 0 → ∀ b, b < 0 → a ≠ b → (TJxbd725 a).2.1 ≠ (TJxbd725 b).2.1 := by decide +kernel
theorem tyJxbd725_ok : ∀ k, k < 0 → parseFieldDescriptor (TJxbd725 k).2.2.1 = some (tyJxbd725 k) := by decide +kernel
def RJ15 : String := "java/util/Objects"
def TJ15 : u_T := fun k => match k with
  | _ => ("", "", "", false)
def tyJ15 : Nat → FieldType := fun k => match k with
  | _ => .int
theorem nmJ15 : ∀ a, a < 0 → ∀ b, b < 0 → a ≠ b → (TJ15 a).2.1 ≠ (TJ15 b).2.1 := by decide +kernel
theorem tyJ15_ok : ∀ k, k < 0 → parseFieldDescriptor (TJ15 k).2.2.1 = some (tyJ15 k) := by decide +kernel
abbrev cJ15_checkIndex_7cf53 : ByteArray := prog_35_method_17_code
def yJ15_checkIndex_7cf53 : MethodName := ⟨RJ15, "checkIndex", "(II)I"⟩
def RJxf0a74 : String := "java/util/RandomAccess"
def TJxf0a74 : u_T := fun k => match k with
  | _ => ("", "", "", false)
def tyJxf0a74 : Nat → FieldType := fun k => match k with
  | _ => .int
theorem nmJxf0a74 : ∀ a, a < 0 → ∀ b, b < 0 → a ≠ b → (TJxf0a74 a).2.1 ≠ (TJxf0a74 b).2.1 := by decide +kernel
theorem tyJxf0a74_ok : ∀ k, k < 0 → parseFieldDescriptor (TJxf0a74 k).2.2.1 = some (tyJxf0a74 k) := by decide +kernel
def RJxa66e6 : String := "java/util/SequencedCollection"
def TJxa66e6 : u_T := fun k => match k with
  | _ => ("", "", "", false)
def tyJxa66e6 : Nat → FieldType := fun k => match k with
  | _ => .int
theorem nmJxa66e6 : ∀ a, a < 0 → ∀ b, b < 0 → a ≠ b → (TJxa66e6 a).2.1 ≠ (TJxa66e6 b).2.1 := by decide +kernel
theorem tyJxa66e6_ok : ∀ k, k < 0 → parseFieldDescriptor (TJxa66e6 k).2.2.1 = some (tyJxa66e6 k) := by decide +kernel
def RJ8 : String := "jdk/internal/util/ArraysSupport"
def TJ8 : u_T := fun k => match k with
  | _ => ("", "", "", false)
def tyJ8 : Nat → FieldType := fun k => match k with
  | _ => .int
theorem nmJ8 : ∀ a, a < 0 → ∀ b, b < 0 → a ≠ b → (TJ8 a).2.1 ≠ (TJ8 b).2.1 := by decide +kernel
theorem tyJ8_ok : ∀ k, k < 0 → parseFieldDescriptor (TJ8 k).2.2.1 = some (tyJ8 k) := by decide +kernel
abbrev cJ8_newLength_cabcc : ByteArray := prog_38_method_27_code
def yJ8_newLength_cabcc : MethodName := ⟨RJ8, "newLength", "(III)I"⟩
abbrev cJ8_hugeLength_7cf53 : ByteArray := prog_38_method_28_code
def yJ8_hugeLength_7cf53 : MethodName := ⟨RJ8, "hugeLength", "(II)I"⟩
def RJ3 : String := "jdk/internal/util/Preconditions"
def TJ3 : u_T := fun k => match k with
  | _ => ("", "", "", false)
def tyJ3 : Nat → FieldType := fun k => match k with
  | _ => .int
theorem nmJ3 : ∀ a, a < 0 → ∀ b, b < 0 → a ≠ b → (TJ3 a).2.1 ≠ (TJ3 b).2.1 := by decide +kernel
theorem tyJ3_ok : ∀ k, k < 0 → parseFieldDescriptor (TJ3 k).2.2.1 = some (tyJ3 k) := by decide +kernel
abbrev cJ3_checkIndex_8e157 : ByteArray := prog_39_method_11_code
def yJ3_checkIndex_8e157 : MethodName := ⟨RJ3, "checkIndex", "(IILjava/util/function/BiFunction;)I"⟩
abbrev cJ3_checkFromToIndex_8c36e : ByteArray := prog_39_method_12_code
def yJ3_checkFromToIndex_8c36e : MethodName := ⟨RJ3, "checkFromToIndex", "(IIILjava/util/function/BiFunction;)I"⟩
def RL : String := "SignatoryLaw"
theorem dX0_init_0 : decode cX0_init 0 = .ok (.aload_n 0, 1) := by decide +kernel
theorem dX0_init_1 : decode cX0_init 1 = .ok (.invokespecial 3, 3) := by decide +kernel
theorem dX0_init_4 : decode cX0_init 4 = .ok (.aload_n 0, 1) := by decide +kernel
theorem dX0_init_5 : decode cX0_init 5 = .ok (.bipush 45, 2) := by decide +kernel
theorem dX0_init_7 : decode cX0_init 7 = .ok (.putfield 9, 3) := by decide +kernel
theorem dX0_init_10 : decode cX0_init 10 = .ok (.aload_n 0, 1) := by decide +kernel
theorem dX0_init_11 : decode cX0_init 11 = .ok (.iconst (-1), 1) := by decide +kernel
theorem dX0_init_12 : decode cX0_init 12 = .ok (.putfield 15, 3) := by decide +kernel
theorem dX0_init_15 : decode cX0_init 15 = .ok (.aload_n 0, 1) := by decide +kernel
theorem dX0_init_16 : decode cX0_init 16 = .ok (.iconst (-1), 1) := by decide +kernel
theorem dX0_init_17 : decode cX0_init 17 = .ok (.putfield 19, 3) := by decide +kernel
theorem dX0_init_20 : decode cX0_init 20 = .ok (.aload_n 0, 1) := by decide +kernel
theorem dX0_init_21 : decode cX0_init 21 = .ok (.iload_n 1, 1) := by decide +kernel
theorem dX0_init_22 : decode cX0_init 22 = .ok (.putfield 22, 3) := by decide +kernel
theorem dX0_init_25 : decode cX0_init 25 = .ok (.aload_n 0, 1) := by decide +kernel
theorem dX0_init_26 : decode cX0_init 26 = .ok (.iload_n 2, 1) := by decide +kernel
theorem dX0_init_27 : decode cX0_init 27 = .ok (.putfield 25, 3) := by decide +kernel
theorem dX0_init_30 : decode cX0_init 30 = .ok (.aload_n 0, 1) := by decide +kernel
theorem dX0_init_31 : decode cX0_init 31 = .ok (.iload_n 3, 1) := by decide +kernel
theorem dX0_init_32 : decode cX0_init 32 = .ok (.putfield 28, 3) := by decide +kernel
theorem dX0_init_35 : decode cX0_init 35 = .ok (.aload_n 0, 1) := by decide +kernel
theorem dX0_init_36 : decode cX0_init 36 = .ok (.iload 4, 2) := by decide +kernel
theorem dX0_init_38 : decode cX0_init 38 = .ok (.putfield 31, 3) := by decide +kernel
theorem dX0_init_41 : decode cX0_init 41 = .ok (.aload_n 0, 1) := by decide +kernel
theorem dX0_init_42 : decode cX0_init 42 = .ok (.iload 5, 2) := by decide +kernel
theorem dX0_init_44 : decode cX0_init 44 = .ok (.putfield 34, 3) := by decide +kernel
theorem dX0_init_47 : decode cX0_init 47 = .ok (.aload_n 0, 1) := by decide +kernel
theorem dX0_init_48 : decode cX0_init 48 = .ok (.iload 6, 2) := by decide +kernel
theorem dX0_init_50 : decode cX0_init 50 = .ok (.putfield 37, 3) := by decide +kernel
theorem dX0_init_53 : decode cX0_init 53 = .ok (.return_, 1) := by decide +kernel
theorem dX0_isStanding_0 : decode cX0_isStanding 0 = .ok (.aload_n 0, 1) := by decide +kernel
theorem dX0_isStanding_1 : decode cX0_isStanding 1 = .ok (.getfield 40, 3) := by decide +kernel
theorem dX0_isStanding_4 : decode cX0_isStanding 4 = .ok (.bipush 115, 2) := by decide +kernel
theorem dX0_isStanding_6 : decode cX0_isStanding 6 = .ok (.if_icmp .eq 12, 3) := by decide +kernel
theorem dX0_isStanding_9 : decode cX0_isStanding 9 = .ok (.aload_n 0, 1) := by decide +kernel
theorem dX0_isStanding_10 : decode cX0_isStanding 10 = .ok (.getfield 40, 3) := by decide +kernel
theorem dX0_isStanding_13 : decode cX0_isStanding 13 = .ok (.bipush 114, 2) := by decide +kernel
theorem dX0_isStanding_15 : decode cX0_isStanding 15 = .ok (.if_icmp .ne 7, 3) := by decide +kernel
theorem dX0_isStanding_18 : decode cX0_isStanding 18 = .ok (.iconst 1, 1) := by decide +kernel
theorem dX0_isStanding_19 : decode cX0_isStanding 19 = .ok (.goto 4, 3) := by decide +kernel
theorem dX0_isStanding_22 : decode cX0_isStanding 22 = .ok (.iconst 0, 1) := by decide +kernel
theorem dX0_isStanding_23 : decode cX0_isStanding 23 = .ok (.ireturn, 1) := by decide +kernel
theorem dX1_init_0 : decode cX1_init 0 = .ok (.aload_n 0, 1) := by decide +kernel
theorem dX1_init_1 : decode cX1_init 1 = .ok (.invokespecial 3, 3) := by decide +kernel
theorem dX1_init_4 : decode cX1_init 4 = .ok (.aload_n 0, 1) := by decide +kernel
theorem dX1_init_5 : decode cX1_init 5 = .ok (.bipush 20, 2) := by decide +kernel
theorem dX1_init_7 : decode cX1_init 7 = .ok (.newarray .int, 2) := by decide +kernel
theorem dX1_init_9 : decode cX1_init 9 = .ok (.putfield 9, 3) := by decide +kernel
theorem dX1_init_12 : decode cX1_init 12 = .ok (.aload_n 0, 1) := by decide +kernel
theorem dX1_init_13 : decode cX1_init 13 = .ok (.bipush 20, 2) := by decide +kernel
theorem dX1_init_15 : decode cX1_init 15 = .ok (.newarray .boolean, 2) := by decide +kernel
theorem dX1_init_17 : decode cX1_init 17 = .ok (.putfield 15, 3) := by decide +kernel
theorem dX1_init_20 : decode cX1_init 20 = .ok (.aload_n 0, 1) := by decide +kernel
theorem dX1_init_21 : decode cX1_init 21 = .ok (.bipush 8, 2) := by decide +kernel
theorem dX1_init_23 : decode cX1_init 23 = .ok (.newarray .int, 2) := by decide +kernel
theorem dX1_init_25 : decode cX1_init 25 = .ok (.putfield 19, 3) := by decide +kernel
theorem dX1_init_28 : decode cX1_init 28 = .ok (.aload_n 0, 1) := by decide +kernel
theorem dX1_init_29 : decode cX1_init 29 = .ok (.bipush 24, 2) := by decide +kernel
theorem dX1_init_31 : decode cX1_init 31 = .ok (.newarray .boolean, 2) := by decide +kernel
theorem dX1_init_33 : decode cX1_init 33 = .ok (.putfield 22, 3) := by decide +kernel
theorem dX1_init_36 : decode cX1_init 36 = .ok (.aload_n 0, 1) := by decide +kernel
theorem dX1_init_37 : decode cX1_init 37 = .ok (.invokevirtual 25, 3) := by decide +kernel
theorem dX1_init_40 : decode cX1_init 40 = .ok (.return_, 1) := by decide +kernel
theorem dX1_forget_0 : decode cX1_forget 0 = .ok (.iconst 0, 1) := by decide +kernel
theorem dX1_forget_1 : decode cX1_forget 1 = .ok (.istore_n 1, 1) := by decide +kernel
theorem dX1_forget_2 : decode cX1_forget 2 = .ok (.iload_n 1, 1) := by decide +kernel
theorem dX1_forget_3 : decode cX1_forget 3 = .ok (.aload_n 0, 1) := by decide +kernel
theorem dX1_forget_4 : decode cX1_forget 4 = .ok (.getfield 9, 3) := by decide +kernel
theorem dX1_forget_7 : decode cX1_forget 7 = .ok (.arraylength, 1) := by decide +kernel
theorem dX1_forget_8 : decode cX1_forget 8 = .ok (.if_icmp .ge 32, 3) := by decide +kernel
theorem dX1_forget_11 : decode cX1_forget 11 = .ok (.iload_n 1, 1) := by decide +kernel
theorem dX1_forget_12 : decode cX1_forget 12 = .ok (.aload_n 0, 1) := by decide +kernel
theorem dX1_forget_13 : decode cX1_forget 13 = .ok (.getfield 15, 3) := by decide +kernel
theorem dX1_forget_16 : decode cX1_forget 16 = .ok (.arraylength, 1) := by decide +kernel
theorem dX1_forget_17 : decode cX1_forget 17 = .ok (.if_icmp .ge 23, 3) := by decide +kernel
theorem dX1_forget_20 : decode cX1_forget 20 = .ok (.aload_n 0, 1) := by decide +kernel
theorem dX1_forget_21 : decode cX1_forget 21 = .ok (.getfield 9, 3) := by decide +kernel
theorem dX1_forget_24 : decode cX1_forget 24 = .ok (.iload_n 1, 1) := by decide +kernel
theorem dX1_forget_25 : decode cX1_forget 25 = .ok (.iconst 0, 1) := by decide +kernel
theorem dX1_forget_26 : decode cX1_forget 26 = .ok (.iastore, 1) := by decide +kernel
theorem dX1_forget_27 : decode cX1_forget 27 = .ok (.aload_n 0, 1) := by decide +kernel
theorem dX1_forget_28 : decode cX1_forget 28 = .ok (.getfield 15, 3) := by decide +kernel
theorem dX1_forget_31 : decode cX1_forget 31 = .ok (.iload_n 1, 1) := by decide +kernel
theorem dX1_forget_32 : decode cX1_forget 32 = .ok (.iconst 0, 1) := by decide +kernel
theorem dX1_forget_33 : decode cX1_forget 33 = .ok (.bastore, 1) := by decide +kernel
theorem dX1_forget_34 : decode cX1_forget 34 = .ok (.iinc 1 1, 3) := by decide +kernel
theorem dX1_forget_37 : decode cX1_forget 37 = .ok (.goto (-35), 3) := by decide +kernel
theorem dX1_forget_40 : decode cX1_forget 40 = .ok (.iconst 0, 1) := by decide +kernel
theorem dX1_forget_41 : decode cX1_forget 41 = .ok (.istore_n 1, 1) := by decide +kernel
theorem dX1_forget_42 : decode cX1_forget 42 = .ok (.iload_n 1, 1) := by decide +kernel
theorem dX1_forget_43 : decode cX1_forget 43 = .ok (.aload_n 0, 1) := by decide +kernel
theorem dX1_forget_44 : decode cX1_forget 44 = .ok (.getfield 19, 3) := by decide +kernel
theorem dX1_forget_47 : decode cX1_forget 47 = .ok (.arraylength, 1) := by decide +kernel
theorem dX1_forget_48 : decode cX1_forget 48 = .ok (.if_icmp .ge 17, 3) := by decide +kernel
theorem dX1_forget_51 : decode cX1_forget 51 = .ok (.aload_n 0, 1) := by decide +kernel
theorem dX1_forget_52 : decode cX1_forget 52 = .ok (.getfield 19, 3) := by decide +kernel
theorem dX1_forget_55 : decode cX1_forget 55 = .ok (.iload_n 1, 1) := by decide +kernel
theorem dX1_forget_56 : decode cX1_forget 56 = .ok (.bipush (-2), 2) := by decide +kernel
theorem dX1_forget_58 : decode cX1_forget 58 = .ok (.iastore, 1) := by decide +kernel
theorem dX1_forget_59 : decode cX1_forget 59 = .ok (.iinc 1 1, 3) := by decide +kernel
theorem dX1_forget_62 : decode cX1_forget 62 = .ok (.goto (-20), 3) := by decide +kernel
theorem dX1_forget_65 : decode cX1_forget 65 = .ok (.iconst 0, 1) := by decide +kernel
theorem dX1_forget_66 : decode cX1_forget 66 = .ok (.istore_n 1, 1) := by decide +kernel
theorem dX1_forget_67 : decode cX1_forget 67 = .ok (.iload_n 1, 1) := by decide +kernel
theorem dX1_forget_68 : decode cX1_forget 68 = .ok (.aload_n 0, 1) := by decide +kernel
theorem dX1_forget_69 : decode cX1_forget 69 = .ok (.getfield 22, 3) := by decide +kernel
theorem dX1_forget_72 : decode cX1_forget 72 = .ok (.arraylength, 1) := by decide +kernel
theorem dX1_forget_73 : decode cX1_forget 73 = .ok (.if_icmp .ge 16, 3) := by decide +kernel
theorem dX1_forget_76 : decode cX1_forget 76 = .ok (.aload_n 0, 1) := by decide +kernel
theorem dX1_forget_77 : decode cX1_forget 77 = .ok (.getfield 22, 3) := by decide +kernel
theorem dX1_forget_80 : decode cX1_forget 80 = .ok (.iload_n 1, 1) := by decide +kernel
theorem dX1_forget_81 : decode cX1_forget 81 = .ok (.iconst 0, 1) := by decide +kernel
theorem dX1_forget_82 : decode cX1_forget 82 = .ok (.bastore, 1) := by decide +kernel
theorem dX1_forget_83 : decode cX1_forget 83 = .ok (.iinc 1 1, 3) := by decide +kernel
theorem dX1_forget_86 : decode cX1_forget 86 = .ok (.goto (-19), 3) := by decide +kernel
theorem dX1_forget_89 : decode cX1_forget 89 = .ok (.aload_n 0, 1) := by decide +kernel
theorem dX1_forget_90 : decode cX1_forget 90 = .ok (.bipush 30, 2) := by decide +kernel
theorem dX1_forget_92 : decode cX1_forget 92 = .ok (.putfield 28, 3) := by decide +kernel
theorem dX1_forget_95 : decode cX1_forget 95 = .ok (.aload_n 0, 1) := by decide +kernel
theorem dX1_forget_96 : decode cX1_forget 96 = .ok (.iconst 0, 1) := by decide +kernel
theorem dX1_forget_97 : decode cX1_forget 97 = .ok (.putfield 32, 3) := by decide +kernel
theorem dX1_forget_100 : decode cX1_forget 100 = .ok (.return_, 1) := by decide +kernel
theorem dX1_take_0 : decode cX1_take 0 = .ok (.aload_n 1, 1) := by decide +kernel
theorem dX1_take_1 : decode cX1_take 1 = .ok (.getfield 35, 3) := by decide +kernel
theorem dX1_take_4 : decode cX1_take 4 = .ok (.istore_n 2, 1) := by decide +kernel
theorem dX1_take_5 : decode cX1_take 5 = .ok (.aload_n 1, 1) := by decide +kernel
theorem dX1_take_6 : decode cX1_take 6 = .ok (.getfield 40, 3) := by decide +kernel
theorem dX1_take_9 : decode cX1_take 9 = .ok (.ifCond .ne 28, 3) := by decide +kernel
theorem dX1_take_12 : decode cX1_take 12 = .ok (.iload_n 2, 1) := by decide +kernel
theorem dX1_take_13 : decode cX1_take 13 = .ok (.aload_n 0, 1) := by decide +kernel
theorem dX1_take_14 : decode cX1_take 14 = .ok (.getfield 9, 3) := by decide +kernel
theorem dX1_take_17 : decode cX1_take 17 = .ok (.arraylength, 1) := by decide +kernel
theorem dX1_take_18 : decode cX1_take 18 = .ok (.invokestatic 43, 3) := by decide +kernel
theorem dX1_take_21 : decode cX1_take 21 = .ok (.ifCond .eq 16, 3) := by decide +kernel
theorem dX1_take_24 : decode cX1_take 24 = .ok (.aload_n 0, 1) := by decide +kernel
theorem dX1_take_25 : decode cX1_take 25 = .ok (.getfield 9, 3) := by decide +kernel
theorem dX1_take_28 : decode cX1_take 28 = .ok (.iload_n 2, 1) := by decide +kernel
theorem dX1_take_29 : decode cX1_take 29 = .ok (.aload_n 1, 1) := by decide +kernel
theorem dX1_take_30 : decode cX1_take 30 = .ok (.getfield 47, 3) := by decide +kernel
theorem dX1_take_33 : decode cX1_take 33 = .ok (.iastore, 1) := by decide +kernel
theorem dX1_take_34 : decode cX1_take 34 = .ok (.goto 112, 3) := by decide +kernel
theorem dX1_take_37 : decode cX1_take 37 = .ok (.aload_n 1, 1) := by decide +kernel
theorem dX1_take_38 : decode cX1_take 38 = .ok (.getfield 40, 3) := by decide +kernel
theorem dX1_take_41 : decode cX1_take 41 = .ok (.iconst 1, 1) := by decide +kernel
theorem dX1_take_42 : decode cX1_take 42 = .ok (.if_icmp .ne 25, 3) := by decide +kernel
theorem dX1_take_45 : decode cX1_take 45 = .ok (.iload_n 2, 1) := by decide +kernel
theorem dX1_take_46 : decode cX1_take 46 = .ok (.aload_n 0, 1) := by decide +kernel
theorem dX1_take_47 : decode cX1_take 47 = .ok (.getfield 15, 3) := by decide +kernel
theorem dX1_take_50 : decode cX1_take 50 = .ok (.arraylength, 1) := by decide +kernel
theorem dX1_take_51 : decode cX1_take 51 = .ok (.invokestatic 43, 3) := by decide +kernel
theorem dX1_take_54 : decode cX1_take 54 = .ok (.ifCond .eq 13, 3) := by decide +kernel
theorem dX1_take_57 : decode cX1_take 57 = .ok (.aload_n 0, 1) := by decide +kernel
theorem dX1_take_58 : decode cX1_take 58 = .ok (.getfield 15, 3) := by decide +kernel
theorem dX1_take_61 : decode cX1_take 61 = .ok (.iload_n 2, 1) := by decide +kernel
theorem dX1_take_62 : decode cX1_take 62 = .ok (.iconst 1, 1) := by decide +kernel
theorem dX1_take_63 : decode cX1_take 63 = .ok (.bastore, 1) := by decide +kernel
theorem dX1_take_64 : decode cX1_take 64 = .ok (.goto 82, 3) := by decide +kernel
theorem dX1_take_67 : decode cX1_take 67 = .ok (.aload_n 1, 1) := by decide +kernel
theorem dX1_take_68 : decode cX1_take 68 = .ok (.getfield 40, 3) := by decide +kernel
theorem dX1_take_71 : decode cX1_take 71 = .ok (.iconst 2, 1) := by decide +kernel
theorem dX1_take_72 : decode cX1_take 72 = .ok (.if_icmp .ne 28, 3) := by decide +kernel
theorem dX1_take_75 : decode cX1_take 75 = .ok (.iload_n 2, 1) := by decide +kernel
theorem dX1_take_76 : decode cX1_take 76 = .ok (.aload_n 0, 1) := by decide +kernel
theorem dX1_take_77 : decode cX1_take 77 = .ok (.getfield 19, 3) := by decide +kernel
theorem dX1_take_80 : decode cX1_take 80 = .ok (.arraylength, 1) := by decide +kernel
theorem dX1_take_81 : decode cX1_take 81 = .ok (.invokestatic 43, 3) := by decide +kernel
theorem dX1_take_84 : decode cX1_take 84 = .ok (.ifCond .eq 16, 3) := by decide +kernel
theorem dX1_take_87 : decode cX1_take 87 = .ok (.aload_n 0, 1) := by decide +kernel
theorem dX1_take_88 : decode cX1_take 88 = .ok (.getfield 19, 3) := by decide +kernel
theorem dX1_take_91 : decode cX1_take 91 = .ok (.iload_n 2, 1) := by decide +kernel
theorem dX1_take_92 : decode cX1_take 92 = .ok (.aload_n 1, 1) := by decide +kernel
theorem dX1_take_93 : decode cX1_take 93 = .ok (.getfield 47, 3) := by decide +kernel
theorem dX1_take_96 : decode cX1_take 96 = .ok (.iastore, 1) := by decide +kernel
theorem dX1_take_97 : decode cX1_take 97 = .ok (.goto 49, 3) := by decide +kernel
theorem dX1_take_100 : decode cX1_take 100 = .ok (.aload_n 1, 1) := by decide +kernel
theorem dX1_take_101 : decode cX1_take 101 = .ok (.getfield 40, 3) := by decide +kernel
theorem dX1_take_104 : decode cX1_take 104 = .ok (.iconst 3, 1) := by decide +kernel
theorem dX1_take_105 : decode cX1_take 105 = .ok (.if_icmp .ne 14, 3) := by decide +kernel
theorem dX1_take_108 : decode cX1_take 108 = .ok (.aload_n 0, 1) := by decide +kernel
theorem dX1_take_109 : decode cX1_take 109 = .ok (.aload_n 1, 1) := by decide +kernel
theorem dX1_take_110 : decode cX1_take 110 = .ok (.getfield 47, 3) := by decide +kernel
theorem dX1_take_113 : decode cX1_take 113 = .ok (.putfield 28, 3) := by decide +kernel
theorem dX1_take_116 : decode cX1_take 116 = .ok (.goto 30, 3) := by decide +kernel
theorem dX1_take_119 : decode cX1_take 119 = .ok (.aload_n 1, 1) := by decide +kernel
theorem dX1_take_120 : decode cX1_take 120 = .ok (.getfield 40, 3) := by decide +kernel
theorem dX1_take_123 : decode cX1_take 123 = .ok (.iconst 4, 1) := by decide +kernel
theorem dX1_take_124 : decode cX1_take 124 = .ok (.if_icmp .ne 22, 3) := by decide +kernel
theorem dX1_take_127 : decode cX1_take 127 = .ok (.iload_n 2, 1) := by decide +kernel
theorem dX1_take_128 : decode cX1_take 128 = .ok (.aload_n 0, 1) := by decide +kernel
theorem dX1_take_129 : decode cX1_take 129 = .ok (.getfield 22, 3) := by decide +kernel
theorem dX1_take_132 : decode cX1_take 132 = .ok (.arraylength, 1) := by decide +kernel
theorem dX1_take_133 : decode cX1_take 133 = .ok (.invokestatic 43, 3) := by decide +kernel
theorem dX1_take_136 : decode cX1_take 136 = .ok (.ifCond .eq 10, 3) := by decide +kernel
theorem dX1_take_139 : decode cX1_take 139 = .ok (.aload_n 0, 1) := by decide +kernel
theorem dX1_take_140 : decode cX1_take 140 = .ok (.getfield 22, 3) := by decide +kernel
theorem dX1_take_143 : decode cX1_take 143 = .ok (.iload_n 2, 1) := by decide +kernel
theorem dX1_take_144 : decode cX1_take 144 = .ok (.iconst 1, 1) := by decide +kernel
theorem dX1_take_145 : decode cX1_take 145 = .ok (.bastore, 1) := by decide +kernel
theorem dX1_take_146 : decode cX1_take 146 = .ok (.return_, 1) := by decide +kernel
theorem dX1_limitOf_0 : decode cX1_limitOf 0 = .ok (.aload_n 1, 1) := by decide +kernel
theorem dX1_limitOf_1 : decode cX1_limitOf 1 = .ok (.getfield 50, 3) := by decide +kernel
theorem dX1_limitOf_4 : decode cX1_limitOf 4 = .ok (.istore_n 2, 1) := by decide +kernel
theorem dX1_limitOf_5 : decode cX1_limitOf 5 = .ok (.iload_n 2, 1) := by decide +kernel
theorem dX1_limitOf_6 : decode cX1_limitOf 6 = .ok (.ifCond .lt 21, 3) := by decide +kernel
theorem dX1_limitOf_9 : decode cX1_limitOf 9 = .ok (.iload_n 2, 1) := by decide +kernel
theorem dX1_limitOf_10 : decode cX1_limitOf 10 = .ok (.aload_n 0, 1) := by decide +kernel
theorem dX1_limitOf_11 : decode cX1_limitOf 11 = .ok (.getfield 9, 3) := by decide +kernel
theorem dX1_limitOf_14 : decode cX1_limitOf 14 = .ok (.arraylength, 1) := by decide +kernel
theorem dX1_limitOf_15 : decode cX1_limitOf 15 = .ok (.if_icmp .ge 12, 3) := by decide +kernel
theorem dX1_limitOf_18 : decode cX1_limitOf 18 = .ok (.aload_n 0, 1) := by decide +kernel
theorem dX1_limitOf_19 : decode cX1_limitOf 19 = .ok (.getfield 9, 3) := by decide +kernel
theorem dX1_limitOf_22 : decode cX1_limitOf 22 = .ok (.iload_n 2, 1) := by decide +kernel
theorem dX1_limitOf_23 : decode cX1_limitOf 23 = .ok (.iaload, 1) := by decide +kernel
theorem dX1_limitOf_24 : decode cX1_limitOf 24 = .ok (.goto 4, 3) := by decide +kernel
theorem dX1_limitOf_27 : decode cX1_limitOf 27 = .ok (.iconst 0, 1) := by decide +kernel
theorem dX1_limitOf_28 : decode cX1_limitOf 28 = .ok (.ireturn, 1) := by decide +kernel
theorem dX1_isRevoked_0 : decode cX1_isRevoked 0 = .ok (.aload_n 1, 1) := by decide +kernel
theorem dX1_isRevoked_1 : decode cX1_isRevoked 1 = .ok (.getfield 50, 3) := by decide +kernel
theorem dX1_isRevoked_4 : decode cX1_isRevoked 4 = .ok (.istore_n 2, 1) := by decide +kernel
theorem dX1_isRevoked_5 : decode cX1_isRevoked 5 = .ok (.iload_n 2, 1) := by decide +kernel
theorem dX1_isRevoked_6 : decode cX1_isRevoked 6 = .ok (.ifCond .lt 25, 3) := by decide +kernel
theorem dX1_isRevoked_9 : decode cX1_isRevoked 9 = .ok (.iload_n 2, 1) := by decide +kernel
theorem dX1_isRevoked_10 : decode cX1_isRevoked 10 = .ok (.aload_n 0, 1) := by decide +kernel
theorem dX1_isRevoked_11 : decode cX1_isRevoked 11 = .ok (.getfield 15, 3) := by decide +kernel
theorem dX1_isRevoked_14 : decode cX1_isRevoked 14 = .ok (.arraylength, 1) := by decide +kernel
theorem dX1_isRevoked_15 : decode cX1_isRevoked 15 = .ok (.if_icmp .ge 16, 3) := by decide +kernel
theorem dX1_isRevoked_18 : decode cX1_isRevoked 18 = .ok (.aload_n 0, 1) := by decide +kernel
theorem dX1_isRevoked_19 : decode cX1_isRevoked 19 = .ok (.getfield 15, 3) := by decide +kernel
theorem dX1_isRevoked_22 : decode cX1_isRevoked 22 = .ok (.iload_n 2, 1) := by decide +kernel
theorem dX1_isRevoked_23 : decode cX1_isRevoked 23 = .ok (.baload, 1) := by decide +kernel
theorem dX1_isRevoked_24 : decode cX1_isRevoked 24 = .ok (.ifCond .eq 7, 3) := by decide +kernel
theorem dX1_isRevoked_27 : decode cX1_isRevoked 27 = .ok (.iconst 1, 1) := by decide +kernel
theorem dX1_isRevoked_28 : decode cX1_isRevoked 28 = .ok (.goto 4, 3) := by decide +kernel
theorem dX1_isRevoked_31 : decode cX1_isRevoked 31 = .ok (.iconst 0, 1) := by decide +kernel
theorem dX1_isRevoked_32 : decode cX1_isRevoked 32 = .ok (.ireturn, 1) := by decide +kernel
theorem dX1_isAnnulled_0 : decode cX1_isAnnulled 0 = .ok (.aload_n 1, 1) := by decide +kernel
theorem dX1_isAnnulled_1 : decode cX1_isAnnulled 1 = .ok (.getfield 55, 3) := by decide +kernel
theorem dX1_isAnnulled_4 : decode cX1_isAnnulled 4 = .ok (.aload_n 0, 1) := by decide +kernel
theorem dX1_isAnnulled_5 : decode cX1_isAnnulled 5 = .ok (.getfield 22, 3) := by decide +kernel
theorem dX1_isAnnulled_8 : decode cX1_isAnnulled 8 = .ok (.arraylength, 1) := by decide +kernel
theorem dX1_isAnnulled_9 : decode cX1_isAnnulled 9 = .ok (.invokestatic 43, 3) := by decide +kernel
theorem dX1_isAnnulled_12 : decode cX1_isAnnulled 12 = .ok (.ifCond .eq 19, 3) := by decide +kernel
theorem dX1_isAnnulled_15 : decode cX1_isAnnulled 15 = .ok (.aload_n 0, 1) := by decide +kernel
theorem dX1_isAnnulled_16 : decode cX1_isAnnulled 16 = .ok (.getfield 22, 3) := by decide +kernel
theorem dX1_isAnnulled_19 : decode cX1_isAnnulled 19 = .ok (.aload_n 1, 1) := by decide +kernel
theorem dX1_isAnnulled_20 : decode cX1_isAnnulled 20 = .ok (.getfield 55, 3) := by decide +kernel
theorem dX1_isAnnulled_23 : decode cX1_isAnnulled 23 = .ok (.baload, 1) := by decide +kernel
theorem dX1_isAnnulled_24 : decode cX1_isAnnulled 24 = .ok (.ifCond .eq 7, 3) := by decide +kernel
theorem dX1_isAnnulled_27 : decode cX1_isAnnulled 27 = .ok (.iconst 1, 1) := by decide +kernel
theorem dX1_isAnnulled_28 : decode cX1_isAnnulled 28 = .ok (.goto 4, 3) := by decide +kernel
theorem dX1_isAnnulled_31 : decode cX1_isAnnulled 31 = .ok (.iconst 0, 1) := by decide +kernel
theorem dX1_isAnnulled_32 : decode cX1_isAnnulled 32 = .ok (.ireturn, 1) := by decide +kernel
theorem dX1_substituteFor_0 : decode cX1_substituteFor 0 = .ok (.iload_n 1, 1) := by decide +kernel
theorem dX1_substituteFor_1 : decode cX1_substituteFor 1 = .ok (.aload_n 0, 1) := by decide +kernel
theorem dX1_substituteFor_2 : decode cX1_substituteFor 2 = .ok (.getfield 19, 3) := by decide +kernel
theorem dX1_substituteFor_5 : decode cX1_substituteFor 5 = .ok (.arraylength, 1) := by decide +kernel
theorem dX1_substituteFor_6 : decode cX1_substituteFor 6 = .ok (.invokestatic 43, 3) := by decide +kernel
theorem dX1_substituteFor_9 : decode cX1_substituteFor 9 = .ok (.ifCond .eq 12, 3) := by decide +kernel
theorem dX1_substituteFor_12 : decode cX1_substituteFor 12 = .ok (.aload_n 0, 1) := by decide +kernel
theorem dX1_substituteFor_13 : decode cX1_substituteFor 13 = .ok (.getfield 19, 3) := by decide +kernel
theorem dX1_substituteFor_16 : decode cX1_substituteFor 16 = .ok (.iload_n 1, 1) := by decide +kernel
theorem dX1_substituteFor_17 : decode cX1_substituteFor 17 = .ok (.iaload, 1) := by decide +kernel
theorem dX1_substituteFor_18 : decode cX1_substituteFor 18 = .ok (.goto 5, 3) := by decide +kernel
theorem dX1_substituteFor_21 : decode cX1_substituteFor 21 = .ok (.bipush (-2), 2) := by decide +kernel
theorem dX1_substituteFor_23 : decode cX1_substituteFor 23 = .ok (.ireturn, 1) := by decide +kernel
theorem dX1_actsByPowersOf_0 : decode cX1_actsByPowersOf 0 = .ok (.iload_n 1, 1) := by decide +kernel
theorem dX1_actsByPowersOf_1 : decode cX1_actsByPowersOf 1 = .ok (.iload_n 2, 1) := by decide +kernel
theorem dX1_actsByPowersOf_2 : decode cX1_actsByPowersOf 2 = .ok (.if_icmp .eq 12, 3) := by decide +kernel
theorem dX1_actsByPowersOf_5 : decode cX1_actsByPowersOf 5 = .ok (.aload_n 0, 1) := by decide +kernel
theorem dX1_actsByPowersOf_6 : decode cX1_actsByPowersOf 6 = .ok (.iload_n 2, 1) := by decide +kernel
theorem dX1_actsByPowersOf_7 : decode cX1_actsByPowersOf 7 = .ok (.invokevirtual 58, 3) := by decide +kernel
theorem dX1_actsByPowersOf_10 : decode cX1_actsByPowersOf 10 = .ok (.iload_n 1, 1) := by decide +kernel
theorem dX1_actsByPowersOf_11 : decode cX1_actsByPowersOf 11 = .ok (.if_icmp .ne 7, 3) := by decide +kernel
theorem dX1_actsByPowersOf_14 : decode cX1_actsByPowersOf 14 = .ok (.iconst 1, 1) := by decide +kernel
theorem dX1_actsByPowersOf_15 : decode cX1_actsByPowersOf 15 = .ok (.goto 4, 3) := by decide +kernel
theorem dX1_actsByPowersOf_18 : decode cX1_actsByPowersOf 18 = .ok (.iconst 0, 1) := by decide +kernel
theorem dX1_actsByPowersOf_19 : decode cX1_actsByPowersOf 19 = .ok (.ireturn, 1) := by decide +kernel
theorem dX1_ownFault_0 : decode cX1_ownFault 0 = .ok (.aload_n 0, 1) := by decide +kernel
theorem dX1_ownFault_1 : decode cX1_ownFault 1 = .ok (.getfield 32, 3) := by decide +kernel
theorem dX1_ownFault_4 : decode cX1_ownFault 4 = .ok (.aload_n 1, 1) := by decide +kernel
theorem dX1_ownFault_5 : decode cX1_ownFault 5 = .ok (.getfield 62, 3) := by decide +kernel
theorem dX1_ownFault_8 : decode cX1_ownFault 8 = .ok (.aload_n 1, 1) := by decide +kernel
theorem dX1_ownFault_9 : decode cX1_ownFault 9 = .ok (.getfield 65, 3) := by decide +kernel
theorem dX1_ownFault_12 : decode cX1_ownFault 12 = .ok (.invokestatic 68, 3) := by decide +kernel
theorem dX1_ownFault_15 : decode cX1_ownFault 15 = .ok (.ifCond .ne 6, 3) := by decide +kernel
theorem dX1_ownFault_18 : decode cX1_ownFault 18 = .ok (.bipush 100, 2) := by decide +kernel
theorem dX1_ownFault_20 : decode cX1_ownFault 20 = .ok (.ireturn, 1) := by decide +kernel
theorem dX1_ownFault_21 : decode cX1_ownFault 21 = .ok (.aload_n 0, 1) := by decide +kernel
theorem dX1_ownFault_22 : decode cX1_ownFault 22 = .ok (.aload_n 1, 1) := by decide +kernel
theorem dX1_ownFault_23 : decode cX1_ownFault 23 = .ok (.invokevirtual 72, 3) := by decide +kernel
theorem dX1_ownFault_26 : decode cX1_ownFault 26 = .ok (.ifCond .eq 6, 3) := by decide +kernel
theorem dX1_ownFault_29 : decode cX1_ownFault 29 = .ok (.bipush 118, 2) := by decide +kernel
theorem dX1_ownFault_31 : decode cX1_ownFault 31 = .ok (.ireturn, 1) := by decide +kernel
theorem dX1_ownFault_32 : decode cX1_ownFault 32 = .ok (.iload_n 2, 1) := by decide +kernel
theorem dX1_ownFault_33 : decode cX1_ownFault 33 = .ok (.aload_n 0, 1) := by decide +kernel
theorem dX1_ownFault_34 : decode cX1_ownFault 34 = .ok (.aload_n 1, 1) := by decide +kernel
theorem dX1_ownFault_35 : decode cX1_ownFault 35 = .ok (.invokevirtual 76, 3) := by decide +kernel
theorem dX1_ownFault_38 : decode cX1_ownFault 38 = .ok (.if_icmp .le 8, 3) := by decide +kernel
theorem dX1_ownFault_41 : decode cX1_ownFault 41 = .ok (.bipush 108, 2) := by decide +kernel
theorem dX1_ownFault_43 : decode cX1_ownFault 43 = .ok (.goto 5, 3) := by decide +kernel
theorem dX1_ownFault_46 : decode cX1_ownFault 46 = .ok (.bipush 45, 2) := by decide +kernel
theorem dX1_ownFault_48 : decode cX1_ownFault 48 = .ok (.ireturn, 1) := by decide +kernel
theorem dX1_faultOf_0 : decode cX1_faultOf 0 = .ok (.bipush 45, 2) := by decide +kernel
theorem dX1_faultOf_2 : decode cX1_faultOf 2 = .ok (.istore_n 3, 1) := by decide +kernel
theorem dX1_faultOf_3 : decode cX1_faultOf 3 = .ok (.aload_n 1, 1) := by decide +kernel
theorem dX1_faultOf_4 : decode cX1_faultOf 4 = .ok (.astore 4, 2) := by decide +kernel
theorem dX1_faultOf_6 : decode cX1_faultOf 6 = .ok (.aload 4, 2) := by decide +kernel
theorem dX1_faultOf_8 : decode cX1_faultOf 8 = .ok (.ifnull 32, 3) := by decide +kernel
theorem dX1_faultOf_11 : decode cX1_faultOf 11 = .ok (.aload_n 0, 1) := by decide +kernel
theorem dX1_faultOf_12 : decode cX1_faultOf 12 = .ok (.aload 4, 2) := by decide +kernel
theorem dX1_faultOf_14 : decode cX1_faultOf 14 = .ok (.iload_n 2, 1) := by decide +kernel
theorem dX1_faultOf_15 : decode cX1_faultOf 15 = .ok (.invokevirtual 80, 3) := by decide +kernel
theorem dX1_faultOf_18 : decode cX1_faultOf 18 = .ok (.istore 5, 2) := by decide +kernel
theorem dX1_faultOf_20 : decode cX1_faultOf 20 = .ok (.iload 5, 2) := by decide +kernel
theorem dX1_faultOf_22 : decode cX1_faultOf 22 = .ok (.bipush 45, 2) := by decide +kernel
theorem dX1_faultOf_24 : decode cX1_faultOf 24 = .ok (.if_icmp .eq 6, 3) := by decide +kernel
theorem dX1_faultOf_27 : decode cX1_faultOf 27 = .ok (.iload 5, 2) := by decide +kernel
theorem dX1_faultOf_29 : decode cX1_faultOf 29 = .ok (.istore_n 3, 1) := by decide +kernel
theorem dX1_faultOf_30 : decode cX1_faultOf 30 = .ok (.aload 4, 2) := by decide +kernel
theorem dX1_faultOf_32 : decode cX1_faultOf 32 = .ok (.getfield 84, 3) := by decide +kernel
theorem dX1_faultOf_35 : decode cX1_faultOf 35 = .ok (.astore 4, 2) := by decide +kernel
theorem dX1_faultOf_37 : decode cX1_faultOf 37 = .ok (.goto (-31), 3) := by decide +kernel
theorem dX1_faultOf_40 : decode cX1_faultOf 40 = .ok (.iload_n 3, 1) := by decide +kernel
theorem dX1_faultOf_41 : decode cX1_faultOf 41 = .ok (.ireturn, 1) := by decide +kernel
theorem dX1_stepsToFault_0 : decode cX1_stepsToFault 0 = .ok (.iconst (-1), 1) := by decide +kernel
theorem dX1_stepsToFault_1 : decode cX1_stepsToFault 1 = .ok (.istore_n 3, 1) := by decide +kernel
theorem dX1_stepsToFault_2 : decode cX1_stepsToFault 2 = .ok (.iconst 0, 1) := by decide +kernel
theorem dX1_stepsToFault_3 : decode cX1_stepsToFault 3 = .ok (.istore 4, 2) := by decide +kernel
theorem dX1_stepsToFault_5 : decode cX1_stepsToFault 5 = .ok (.aload_n 1, 1) := by decide +kernel
theorem dX1_stepsToFault_6 : decode cX1_stepsToFault 6 = .ok (.astore 5, 2) := by decide +kernel
theorem dX1_stepsToFault_8 : decode cX1_stepsToFault 8 = .ok (.aload 5, 2) := by decide +kernel
theorem dX1_stepsToFault_10 : decode cX1_stepsToFault 10 = .ok (.ifnull 31, 3) := by decide +kernel
theorem dX1_stepsToFault_13 : decode cX1_stepsToFault 13 = .ok (.aload_n 0, 1) := by decide +kernel
theorem dX1_stepsToFault_14 : decode cX1_stepsToFault 14 = .ok (.aload 5, 2) := by decide +kernel
theorem dX1_stepsToFault_16 : decode cX1_stepsToFault 16 = .ok (.iload_n 2, 1) := by decide +kernel
theorem dX1_stepsToFault_17 : decode cX1_stepsToFault 17 = .ok (.invokevirtual 80, 3) := by decide +kernel
theorem dX1_stepsToFault_20 : decode cX1_stepsToFault 20 = .ok (.bipush 45, 2) := by decide +kernel
theorem dX1_stepsToFault_22 : decode cX1_stepsToFault 22 = .ok (.if_icmp .eq 6, 3) := by decide +kernel
theorem dX1_stepsToFault_25 : decode cX1_stepsToFault 25 = .ok (.iload 4, 2) := by decide +kernel
theorem dX1_stepsToFault_27 : decode cX1_stepsToFault 27 = .ok (.istore_n 3, 1) := by decide +kernel
theorem dX1_stepsToFault_28 : decode cX1_stepsToFault 28 = .ok (.iinc 4 1, 3) := by decide +kernel
theorem dX1_stepsToFault_31 : decode cX1_stepsToFault 31 = .ok (.aload 5, 2) := by decide +kernel
theorem dX1_stepsToFault_33 : decode cX1_stepsToFault 33 = .ok (.getfield 84, 3) := by decide +kernel
theorem dX1_stepsToFault_36 : decode cX1_stepsToFault 36 = .ok (.astore 5, 2) := by decide +kernel
theorem dX1_stepsToFault_38 : decode cX1_stepsToFault 38 = .ok (.goto (-30), 3) := by decide +kernel
theorem dX1_stepsToFault_41 : decode cX1_stepsToFault 41 = .ok (.iload_n 3, 1) := by decide +kernel
theorem dX1_stepsToFault_42 : decode cX1_stepsToFault 42 = .ok (.ireturn, 1) := by decide +kernel
theorem dX2_init_0 : decode cX2_init 0 = .ok (.aload_n 0, 1) := by decide +kernel
theorem dX2_init_1 : decode cX2_init 1 = .ok (.invokespecial 1, 3) := by decide +kernel
theorem dX2_init_4 : decode cX2_init 4 = .ok (.aload_n 0, 1) := by decide +kernel
theorem dX2_init_5 : decode cX2_init 5 = .ok (.iload_n 1, 1) := by decide +kernel
theorem dX2_init_6 : decode cX2_init 6 = .ok (.putfield 7, 3) := by decide +kernel
theorem dX2_init_9 : decode cX2_init 9 = .ok (.aload_n 0, 1) := by decide +kernel
theorem dX2_init_10 : decode cX2_init 10 = .ok (.iload_n 2, 1) := by decide +kernel
theorem dX2_init_11 : decode cX2_init 11 = .ok (.putfield 13, 3) := by decide +kernel
theorem dX2_init_14 : decode cX2_init 14 = .ok (.aload_n 0, 1) := by decide +kernel
theorem dX2_init_15 : decode cX2_init 15 = .ok (.iload_n 3, 1) := by decide +kernel
theorem dX2_init_16 : decode cX2_init 16 = .ok (.putfield 16, 3) := by decide +kernel
theorem dX2_init_19 : decode cX2_init 19 = .ok (.return_, 1) := by decide +kernel
theorem dX3_init_0 : decode cX3_init 0 = .ok (.aload_n 0, 1) := by decide +kernel
theorem dX3_init_1 : decode cX3_init 1 = .ok (.invokespecial 1, 3) := by decide +kernel
theorem dX3_init_4 : decode cX3_init 4 = .ok (.aload_n 0, 1) := by decide +kernel
theorem dX3_init_5 : decode cX3_init 5 = .ok (.iload_n 1, 1) := by decide +kernel
theorem dX3_init_6 : decode cX3_init 6 = .ok (.putfield 7, 3) := by decide +kernel
theorem dX3_init_9 : decode cX3_init 9 = .ok (.aload_n 0, 1) := by decide +kernel
theorem dX3_init_10 : decode cX3_init 10 = .ok (.iload_n 2, 1) := by decide +kernel
theorem dX3_init_11 : decode cX3_init 11 = .ok (.putfield 13, 3) := by decide +kernel
theorem dX3_init_14 : decode cX3_init 14 = .ok (.aload_n 0, 1) := by decide +kernel
theorem dX3_init_15 : decode cX3_init 15 = .ok (.iload_n 3, 1) := by decide +kernel
theorem dX3_init_16 : decode cX3_init 16 = .ok (.putfield 16, 3) := by decide +kernel
theorem dX3_init_19 : decode cX3_init 19 = .ok (.aload_n 0, 1) := by decide +kernel
theorem dX3_init_20 : decode cX3_init 20 = .ok (.iload 4, 2) := by decide +kernel
theorem dX3_init_22 : decode cX3_init 22 = .ok (.putfield 19, 3) := by decide +kernel
theorem dX3_init_25 : decode cX3_init 25 = .ok (.aload_n 0, 1) := by decide +kernel
theorem dX3_init_26 : decode cX3_init 26 = .ok (.iload 5, 2) := by decide +kernel
theorem dX3_init_28 : decode cX3_init 28 = .ok (.putfield 22, 3) := by decide +kernel
theorem dX3_init_31 : decode cX3_init 31 = .ok (.aload_n 0, 1) := by decide +kernel
theorem dX3_init_32 : decode cX3_init 32 = .ok (.iload 6, 2) := by decide +kernel
theorem dX3_init_34 : decode cX3_init 34 = .ok (.putfield 25, 3) := by decide +kernel
theorem dX3_init_37 : decode cX3_init 37 = .ok (.aload_n 0, 1) := by decide +kernel
theorem dX3_init_38 : decode cX3_init 38 = .ok (.aload 7, 2) := by decide +kernel
theorem dX3_init_40 : decode cX3_init 40 = .ok (.putfield 28, 3) := by decide +kernel
theorem dX3_init_43 : decode cX3_init 43 = .ok (.return_, 1) := by decide +kernel
theorem dX3_comesFrom_0 : decode cX3_comesFrom 0 = .ok (.aload_n 0, 1) := by decide +kernel
theorem dX3_comesFrom_1 : decode cX3_comesFrom 1 = .ok (.astore_n 2, 1) := by decide +kernel
theorem dX3_comesFrom_2 : decode cX3_comesFrom 2 = .ok (.aload_n 2, 1) := by decide +kernel
theorem dX3_comesFrom_3 : decode cX3_comesFrom 3 = .ok (.ifnull 18, 3) := by decide +kernel
theorem dX3_comesFrom_6 : decode cX3_comesFrom 6 = .ok (.aload_n 2, 1) := by decide +kernel
theorem dX3_comesFrom_7 : decode cX3_comesFrom 7 = .ok (.aload_n 1, 1) := by decide +kernel
theorem dX3_comesFrom_8 : decode cX3_comesFrom 8 = .ok (.if_acmp .ne 5, 3) := by decide +kernel
theorem dX3_comesFrom_11 : decode cX3_comesFrom 11 = .ok (.iconst 1, 1) := by decide +kernel
theorem dX3_comesFrom_12 : decode cX3_comesFrom 12 = .ok (.ireturn, 1) := by decide +kernel
theorem dX3_comesFrom_13 : decode cX3_comesFrom 13 = .ok (.aload_n 2, 1) := by decide +kernel
theorem dX3_comesFrom_14 : decode cX3_comesFrom 14 = .ok (.getfield 28, 3) := by decide +kernel
theorem dX3_comesFrom_17 : decode cX3_comesFrom 17 = .ok (.astore_n 2, 1) := by decide +kernel
theorem dX3_comesFrom_18 : decode cX3_comesFrom 18 = .ok (.goto (-16), 3) := by decide +kernel
theorem dX3_comesFrom_21 : decode cX3_comesFrom 21 = .ok (.iconst 0, 1) := by decide +kernel
theorem dX3_comesFrom_22 : decode cX3_comesFrom 22 = .ok (.ireturn, 1) := by decide +kernel
theorem dX4_init_0 : decode cX4_init 0 = .ok (.aload_n 0, 1) := by decide +kernel
theorem dX4_init_1 : decode cX4_init 1 = .ok (.invokespecial 1, 3) := by decide +kernel
theorem dX4_init_4 : decode cX4_init 4 = .ok (.aload_n 0, 1) := by decide +kernel
theorem dX4_init_5 : decode cX4_init 5 = .ok (.new 7, 3) := by decide +kernel
theorem dX4_init_8 : decode cX4_init 8 = .ok (.dup, 1) := by decide +kernel
theorem dX4_init_9 : decode cX4_init 9 = .ok (.invokespecial 9, 3) := by decide +kernel
theorem dX4_init_12 : decode cX4_init 12 = .ok (.putfield 10, 3) := by decide +kernel
theorem dX4_init_15 : decode cX4_init 15 = .ok (.aload_n 0, 1) := by decide +kernel
theorem dX4_init_16 : decode cX4_init 16 = .ok (.new 7, 3) := by decide +kernel
theorem dX4_init_19 : decode cX4_init 19 = .ok (.dup, 1) := by decide +kernel
theorem dX4_init_20 : decode cX4_init 20 = .ok (.invokespecial 9, 3) := by decide +kernel
theorem dX4_init_23 : decode cX4_init 23 = .ok (.putfield 16, 3) := by decide +kernel
theorem dX4_init_26 : decode cX4_init 26 = .ok (.aload_n 0, 1) := by decide +kernel
theorem dX4_init_27 : decode cX4_init 27 = .ok (.new 7, 3) := by decide +kernel
theorem dX4_init_30 : decode cX4_init 30 = .ok (.dup, 1) := by decide +kernel
theorem dX4_init_31 : decode cX4_init 31 = .ok (.invokespecial 9, 3) := by decide +kernel
theorem dX4_init_34 : decode cX4_init 34 = .ok (.putfield 19, 3) := by decide +kernel
theorem dX4_init_37 : decode cX4_init 37 = .ok (.aload_n 0, 1) := by decide +kernel
theorem dX4_init_38 : decode cX4_init 38 = .ok (.new 22, 3) := by decide +kernel
theorem dX4_init_41 : decode cX4_init 41 = .ok (.dup, 1) := by decide +kernel
theorem dX4_init_42 : decode cX4_init 42 = .ok (.invokespecial 24, 3) := by decide +kernel
theorem dX4_init_45 : decode cX4_init 45 = .ok (.putfield 25, 3) := by decide +kernel
theorem dX4_init_48 : decode cX4_init 48 = .ok (.aload_n 0, 1) := by decide +kernel
theorem dX4_init_49 : decode cX4_init 49 = .ok (.new 22, 3) := by decide +kernel
theorem dX4_init_52 : decode cX4_init 52 = .ok (.dup, 1) := by decide +kernel
theorem dX4_init_53 : decode cX4_init 53 = .ok (.invokespecial 24, 3) := by decide +kernel
theorem dX4_init_56 : decode cX4_init 56 = .ok (.putfield 29, 3) := by decide +kernel
theorem dX4_init_59 : decode cX4_init 59 = .ok (.aload_n 0, 1) := by decide +kernel
theorem dX4_init_60 : decode cX4_init 60 = .ok (.iconst 0, 1) := by decide +kernel
theorem dX4_init_61 : decode cX4_init 61 = .ok (.putfield 32, 3) := by decide +kernel
theorem dX4_init_64 : decode cX4_init 64 = .ok (.return_, 1) := by decide +kernel
theorem dX4_addPerson_0 : decode cX4_addPerson 0 = .ok (.aload_n 0, 1) := by decide +kernel
theorem dX4_addPerson_1 : decode cX4_addPerson 1 = .ok (.getfield 32, 3) := by decide +kernel
theorem dX4_addPerson_4 : decode cX4_addPerson 4 = .ok (.bipush 8, 2) := by decide +kernel
theorem dX4_addPerson_6 : decode cX4_addPerson 6 = .ok (.if_icmp .lt 13, 3) := by decide +kernel
theorem dX4_addPerson_9 : decode cX4_addPerson 9 = .ok (.new 36, 3) := by decide +kernel
theorem dX4_addPerson_12 : decode cX4_addPerson 12 = .ok (.dup, 1) := by decide +kernel
theorem dX4_addPerson_13 : decode cX4_addPerson 13 = .ok (.ldc 38, 2) := by decide +kernel
theorem dX4_addPerson_15 : decode cX4_addPerson 15 = .ok (.invokespecial 40, 3) := by decide +kernel
theorem dX4_addPerson_18 : decode cX4_addPerson 18 = .ok (.athrow, 1) := by decide +kernel
theorem dX4_addPerson_19 : decode cX4_addPerson 19 = .ok (.aload_n 0, 1) := by decide +kernel
theorem dX4_addPerson_20 : decode cX4_addPerson 20 = .ok (.dup, 1) := by decide +kernel
theorem dX4_addPerson_21 : decode cX4_addPerson 21 = .ok (.getfield 32, 3) := by decide +kernel
theorem dX4_addPerson_24 : decode cX4_addPerson 24 = .ok (.iconst 1, 1) := by decide +kernel
theorem dX4_addPerson_25 : decode cX4_addPerson 25 = .ok (.iadd, 1) := by decide +kernel
theorem dX4_addPerson_26 : decode cX4_addPerson 26 = .ok (.putfield 32, 3) := by decide +kernel
theorem dX4_addPerson_29 : decode cX4_addPerson 29 = .ok (.aload_n 0, 1) := by decide +kernel
theorem dX4_addPerson_30 : decode cX4_addPerson 30 = .ok (.getfield 32, 3) := by decide +kernel
theorem dX4_addPerson_33 : decode cX4_addPerson 33 = .ok (.iconst 1, 1) := by decide +kernel
theorem dX4_addPerson_34 : decode cX4_addPerson 34 = .ok (.isub, 1) := by decide +kernel
theorem dX4_addPerson_35 : decode cX4_addPerson 35 = .ok (.ireturn, 1) := by decide +kernel
theorem dX4_leave_0 : decode cX4_leave 0 = .ok (.aload_n 0, 1) := by decide +kernel
theorem dX4_leave_1 : decode cX4_leave 1 = .ok (.iload_n 1, 1) := by decide +kernel
theorem dX4_leave_2 : decode cX4_leave 2 = .ok (.invokevirtual 43, 3) := by decide +kernel
theorem dX4_leave_5 : decode cX4_leave 5 = .ok (.iload_n 2, 1) := by decide +kernel
theorem dX4_leave_6 : decode cX4_leave 6 = .ok (.iconst (-1), 1) := by decide +kernel
theorem dX4_leave_7 : decode cX4_leave 7 = .ok (.if_icmp .eq 8, 3) := by decide +kernel
theorem dX4_leave_10 : decode cX4_leave 10 = .ok (.aload_n 0, 1) := by decide +kernel
theorem dX4_leave_11 : decode cX4_leave 11 = .ok (.iload_n 2, 1) := by decide +kernel
theorem dX4_leave_12 : decode cX4_leave 12 = .ok (.invokevirtual 43, 3) := by decide +kernel
theorem dX4_leave_15 : decode cX4_leave 15 = .ok (.iload_n 1, 1) := by decide +kernel
theorem dX4_leave_16 : decode cX4_leave 16 = .ok (.iload_n 2, 1) := by decide +kernel
theorem dX4_leave_17 : decode cX4_leave 17 = .ok (.if_icmp .ne 13, 3) := by decide +kernel
theorem dX4_leave_20 : decode cX4_leave 20 = .ok (.new 47, 3) := by decide +kernel
theorem dX4_leave_23 : decode cX4_leave 23 = .ok (.dup, 1) := by decide +kernel
theorem dX4_leave_24 : decode cX4_leave 24 = .ok (.ldc 49, 2) := by decide +kernel
theorem dX4_leave_26 : decode cX4_leave 26 = .ok (.invokespecial 51, 3) := by decide +kernel
theorem dX4_leave_29 : decode cX4_leave 29 = .ok (.athrow, 1) := by decide +kernel
theorem dX4_leave_30 : decode cX4_leave 30 = .ok (.aload_n 0, 1) := by decide +kernel
theorem dX4_leave_31 : decode cX4_leave 31 = .ok (.iload_n 1, 1) := by decide +kernel
theorem dX4_leave_32 : decode cX4_leave 32 = .ok (.invokevirtual 52, 3) := by decide +kernel
theorem dX4_leave_35 : decode cX4_leave 35 = .ok (.istore_n 3, 1) := by decide +kernel
theorem dX4_leave_36 : decode cX4_leave 36 = .ok (.aload_n 0, 1) := by decide +kernel
theorem dX4_leave_37 : decode cX4_leave 37 = .ok (.iconst 2, 1) := by decide +kernel
theorem dX4_leave_38 : decode cX4_leave 38 = .ok (.iload_n 1, 1) := by decide +kernel
theorem dX4_leave_39 : decode cX4_leave 39 = .ok (.iload_n 2, 1) := by decide +kernel
theorem dX4_leave_40 : decode cX4_leave 40 = .ok (.invokevirtual 56, 3) := by decide +kernel
theorem dX4_leave_43 : decode cX4_leave 43 = .ok (.iload_n 3, 1) := by decide +kernel
theorem dX4_leave_44 : decode cX4_leave 44 = .ok (.ireturn, 1) := by decide +kernel
theorem dX4_comeBack_0 : decode cX4_comeBack 0 = .ok (.aload_n 0, 1) := by decide +kernel
theorem dX4_comeBack_1 : decode cX4_comeBack 1 = .ok (.iload_n 1, 1) := by decide +kernel
theorem dX4_comeBack_2 : decode cX4_comeBack 2 = .ok (.invokevirtual 43, 3) := by decide +kernel
theorem dX4_comeBack_5 : decode cX4_comeBack 5 = .ok (.aload_n 0, 1) := by decide +kernel
theorem dX4_comeBack_6 : decode cX4_comeBack 6 = .ok (.getfield 25, 3) := by decide +kernel
theorem dX4_comeBack_9 : decode cX4_comeBack 9 = .ok (.iload_n 1, 1) := by decide +kernel
theorem dX4_comeBack_10 : decode cX4_comeBack 10 = .ok (.invokevirtual 60, 3) := by decide +kernel
theorem dX4_comeBack_13 : decode cX4_comeBack 13 = .ok (.bipush (-2), 2) := by decide +kernel
theorem dX4_comeBack_15 : decode cX4_comeBack 15 = .ok (.if_icmp .ne 13, 3) := by decide +kernel
theorem dX4_comeBack_18 : decode cX4_comeBack 18 = .ok (.new 36, 3) := by decide +kernel
theorem dX4_comeBack_21 : decode cX4_comeBack 21 = .ok (.dup, 1) := by decide +kernel
theorem dX4_comeBack_22 : decode cX4_comeBack 22 = .ok (.ldc 63, 2) := by decide +kernel
theorem dX4_comeBack_24 : decode cX4_comeBack 24 = .ok (.invokespecial 40, 3) := by decide +kernel
theorem dX4_comeBack_27 : decode cX4_comeBack 27 = .ok (.athrow, 1) := by decide +kernel
theorem dX4_comeBack_28 : decode cX4_comeBack 28 = .ok (.aload_n 0, 1) := by decide +kernel
theorem dX4_comeBack_29 : decode cX4_comeBack 29 = .ok (.iload_n 1, 1) := by decide +kernel
theorem dX4_comeBack_30 : decode cX4_comeBack 30 = .ok (.invokevirtual 52, 3) := by decide +kernel
theorem dX4_comeBack_33 : decode cX4_comeBack 33 = .ok (.istore_n 2, 1) := by decide +kernel
theorem dX4_comeBack_34 : decode cX4_comeBack 34 = .ok (.aload_n 0, 1) := by decide +kernel
theorem dX4_comeBack_35 : decode cX4_comeBack 35 = .ok (.iconst 2, 1) := by decide +kernel
theorem dX4_comeBack_36 : decode cX4_comeBack 36 = .ok (.iload_n 1, 1) := by decide +kernel
theorem dX4_comeBack_37 : decode cX4_comeBack 37 = .ok (.bipush (-2), 2) := by decide +kernel
theorem dX4_comeBack_39 : decode cX4_comeBack 39 = .ok (.invokevirtual 56, 3) := by decide +kernel
theorem dX4_comeBack_42 : decode cX4_comeBack 42 = .ok (.iload_n 2, 1) := by decide +kernel
theorem dX4_comeBack_43 : decode cX4_comeBack 43 = .ok (.ireturn, 1) := by decide +kernel
theorem dX4_grant_0 : decode cX4_grant 0 = .ok (.aload_n 0, 1) := by decide +kernel
theorem dX4_grant_1 : decode cX4_grant 1 = .ok (.iload_n 1, 1) := by decide +kernel
theorem dX4_grant_2 : decode cX4_grant 2 = .ok (.invokevirtual 43, 3) := by decide +kernel
theorem dX4_grant_5 : decode cX4_grant 5 = .ok (.iload_n 2, 1) := by decide +kernel
theorem dX4_grant_6 : decode cX4_grant 6 = .ok (.invokestatic 69, 3) := by decide +kernel
theorem dX4_grant_9 : decode cX4_grant 9 = .ok (.iload_n 3, 1) := by decide +kernel
theorem dX4_grant_10 : decode cX4_grant 10 = .ok (.invokestatic 72, 3) := by decide +kernel
theorem dX4_grant_13 : decode cX4_grant 13 = .ok (.ifCond .ne 13, 3) := by decide +kernel
theorem dX4_grant_16 : decode cX4_grant 16 = .ok (.new 47, 3) := by decide +kernel
theorem dX4_grant_19 : decode cX4_grant 19 = .ok (.dup, 1) := by decide +kernel
theorem dX4_grant_20 : decode cX4_grant 20 = .ok (.ldc 76, 2) := by decide +kernel
theorem dX4_grant_22 : decode cX4_grant 22 = .ok (.invokespecial 51, 3) := by decide +kernel
theorem dX4_grant_25 : decode cX4_grant 25 = .ok (.athrow, 1) := by decide +kernel
theorem dX4_grant_26 : decode cX4_grant 26 = .ok (.iload 4, 2) := by decide +kernel
theorem dX4_grant_28 : decode cX4_grant 28 = .ok (.iload 5, 2) := by decide +kernel
theorem dX4_grant_30 : decode cX4_grant 30 = .ok (.iload 6, 2) := by decide +kernel
theorem dX4_grant_32 : decode cX4_grant 32 = .ok (.invokestatic 78, 3) := by decide +kernel
theorem dX4_grant_35 : decode cX4_grant 35 = .ok (.aload_n 0, 1) := by decide +kernel
theorem dX4_grant_36 : decode cX4_grant 36 = .ok (.invokevirtual 81, 3) := by decide +kernel
theorem dX4_grant_39 : decode cX4_grant 39 = .ok (.aload_n 0, 1) := by decide +kernel
theorem dX4_grant_40 : decode cX4_grant 40 = .ok (.new 84, 3) := by decide +kernel
theorem dX4_grant_43 : decode cX4_grant 43 = .ok (.dup, 1) := by decide +kernel
theorem dX4_grant_44 : decode cX4_grant 44 = .ok (.aload_n 0, 1) := by decide +kernel
theorem dX4_grant_45 : decode cX4_grant 45 = .ok (.getfield 10, 3) := by decide +kernel
theorem dX4_grant_48 : decode cX4_grant 48 = .ok (.invokeinterface 86 1, 5) := by decide +kernel
theorem dX4_grant_53 : decode cX4_grant 53 = .ok (.iload_n 1, 1) := by decide +kernel
theorem dX4_grant_54 : decode cX4_grant 54 = .ok (.iload_n 2, 1) := by decide +kernel
theorem dX4_grant_55 : decode cX4_grant 55 = .ok (.iload_n 3, 1) := by decide +kernel
theorem dX4_grant_56 : decode cX4_grant 56 = .ok (.invokestatic 72, 3) := by decide +kernel
theorem dX4_grant_59 : decode cX4_grant 59 = .ok (.iload 5, 2) := by decide +kernel
theorem dX4_grant_61 : decode cX4_grant 61 = .ok (.iload 6, 2) := by decide +kernel
theorem dX4_grant_63 : decode cX4_grant 63 = .ok (.aconst_null, 1) := by decide +kernel
theorem dX4_grant_64 : decode cX4_grant 64 = .ok (.invokespecial 92, 3) := by decide +kernel
theorem dX4_grant_67 : decode cX4_grant 67 = .ok (.iload 4, 2) := by decide +kernel
theorem dX4_grant_69 : decode cX4_grant 69 = .ok (.invokevirtual 95, 3) := by decide +kernel
theorem dX4_grant_72 : decode cX4_grant 72 = .ok (.ireturn, 1) := by decide +kernel
theorem dX4_delegate_0 : decode cX4_delegate 0 = .ok (.aload_n 0, 1) := by decide +kernel
theorem dX4_delegate_1 : decode cX4_delegate 1 = .ok (.iload_n 1, 1) := by decide +kernel
theorem dX4_delegate_2 : decode cX4_delegate 2 = .ok (.invokevirtual 99, 3) := by decide +kernel
theorem dX4_delegate_5 : decode cX4_delegate 5 = .ok (.astore 6, 2) := by decide +kernel
theorem dX4_delegate_7 : decode cX4_delegate 7 = .ok (.aload_n 0, 1) := by decide +kernel
theorem dX4_delegate_8 : decode cX4_delegate 8 = .ok (.iload_n 2, 1) := by decide +kernel
theorem dX4_delegate_9 : decode cX4_delegate 9 = .ok (.invokevirtual 43, 3) := by decide +kernel
theorem dX4_delegate_12 : decode cX4_delegate 12 = .ok (.iload_n 3, 1) := by decide +kernel
theorem dX4_delegate_13 : decode cX4_delegate 13 = .ok (.iload 4, 2) := by decide +kernel
theorem dX4_delegate_15 : decode cX4_delegate 15 = .ok (.iload 5, 2) := by decide +kernel
theorem dX4_delegate_17 : decode cX4_delegate 17 = .ok (.invokestatic 78, 3) := by decide +kernel
theorem dX4_delegate_20 : decode cX4_delegate 20 = .ok (.iload_n 2, 1) := by decide +kernel
theorem dX4_delegate_21 : decode cX4_delegate 21 = .ok (.aload 6, 2) := by decide +kernel
theorem dX4_delegate_23 : decode cX4_delegate 23 = .ok (.getfield 103, 3) := by decide +kernel
theorem dX4_delegate_26 : decode cX4_delegate 26 = .ok (.if_icmp .eq 36, 3) := by decide +kernel
theorem dX4_delegate_29 : decode cX4_delegate 29 = .ok (.iload_n 3, 1) := by decide +kernel
theorem dX4_delegate_30 : decode cX4_delegate 30 = .ok (.aload_n 0, 1) := by decide +kernel
theorem dX4_delegate_31 : decode cX4_delegate 31 = .ok (.getfield 25, 3) := by decide +kernel
theorem dX4_delegate_34 : decode cX4_delegate 34 = .ok (.aload 6, 2) := by decide +kernel
theorem dX4_delegate_36 : decode cX4_delegate 36 = .ok (.invokevirtual 106, 3) := by decide +kernel
theorem dX4_delegate_39 : decode cX4_delegate 39 = .ok (.if_icmp .gt 23, 3) := by decide +kernel
theorem dX4_delegate_42 : decode cX4_delegate 42 = .ok (.iload 4, 2) := by decide +kernel
theorem dX4_delegate_44 : decode cX4_delegate 44 = .ok (.aload 6, 2) := by decide +kernel
theorem dX4_delegate_46 : decode cX4_delegate 46 = .ok (.getfield 110, 3) := by decide +kernel
theorem dX4_delegate_49 : decode cX4_delegate 49 = .ok (.if_icmp .lt 13, 3) := by decide +kernel
theorem dX4_delegate_52 : decode cX4_delegate 52 = .ok (.iload 5, 2) := by decide +kernel
theorem dX4_delegate_54 : decode cX4_delegate 54 = .ok (.aload 6, 2) := by decide +kernel
theorem dX4_delegate_56 : decode cX4_delegate 56 = .ok (.getfield 113, 3) := by decide +kernel
theorem dX4_delegate_59 : decode cX4_delegate 59 = .ok (.if_icmp .le 13, 3) := by decide +kernel
theorem dX4_delegate_62 : decode cX4_delegate 62 = .ok (.new 116, 3) := by decide +kernel
theorem dX4_delegate_65 : decode cX4_delegate 65 = .ok (.dup, 1) := by decide +kernel
theorem dX4_delegate_66 : decode cX4_delegate 66 = .ok (.ldc 118, 2) := by decide +kernel
theorem dX4_delegate_68 : decode cX4_delegate 68 = .ok (.invokespecial 120, 3) := by decide +kernel
theorem dX4_delegate_71 : decode cX4_delegate 71 = .ok (.athrow, 1) := by decide +kernel
theorem dX4_delegate_72 : decode cX4_delegate 72 = .ok (.aload_n 0, 1) := by decide +kernel
theorem dX4_delegate_73 : decode cX4_delegate 73 = .ok (.getfield 25, 3) := by decide +kernel
theorem dX4_delegate_76 : decode cX4_delegate 76 = .ok (.aload 6, 2) := by decide +kernel
theorem dX4_delegate_78 : decode cX4_delegate 78 = .ok (.invokevirtual 121, 3) := by decide +kernel
theorem dX4_delegate_81 : decode cX4_delegate 81 = .ok (.ifCond .eq 13, 3) := by decide +kernel
theorem dX4_delegate_84 : decode cX4_delegate 84 = .ok (.new 36, 3) := by decide +kernel
theorem dX4_delegate_87 : decode cX4_delegate 87 = .ok (.dup, 1) := by decide +kernel
theorem dX4_delegate_88 : decode cX4_delegate 88 = .ok (.ldc 125, 2) := by decide +kernel
theorem dX4_delegate_90 : decode cX4_delegate 90 = .ok (.invokespecial 40, 3) := by decide +kernel
theorem dX4_delegate_93 : decode cX4_delegate 93 = .ok (.athrow, 1) := by decide +kernel
theorem dX4_delegate_94 : decode cX4_delegate 94 = .ok (.aload_n 0, 1) := by decide +kernel
theorem dX4_delegate_95 : decode cX4_delegate 95 = .ok (.invokevirtual 81, 3) := by decide +kernel
theorem dX4_delegate_98 : decode cX4_delegate 98 = .ok (.aload_n 0, 1) := by decide +kernel
theorem dX4_delegate_99 : decode cX4_delegate 99 = .ok (.new 84, 3) := by decide +kernel
theorem dX4_delegate_102 : decode cX4_delegate 102 = .ok (.dup, 1) := by decide +kernel
theorem dX4_delegate_103 : decode cX4_delegate 103 = .ok (.aload_n 0, 1) := by decide +kernel
theorem dX4_delegate_104 : decode cX4_delegate 104 = .ok (.getfield 10, 3) := by decide +kernel
theorem dX4_delegate_107 : decode cX4_delegate 107 = .ok (.invokeinterface 86 1, 5) := by decide +kernel
theorem dX4_delegate_112 : decode cX4_delegate 112 = .ok (.iload_n 2, 1) := by decide +kernel
theorem dX4_delegate_113 : decode cX4_delegate 113 = .ok (.aload 6, 2) := by decide +kernel
theorem dX4_delegate_115 : decode cX4_delegate 115 = .ok (.getfield 127, 3) := by decide +kernel
theorem dX4_delegate_118 : decode cX4_delegate 118 = .ok (.aload 6, 2) := by decide +kernel
theorem dX4_delegate_120 : decode cX4_delegate 120 = .ok (.getfield 130, 3) := by decide +kernel
theorem dX4_delegate_123 : decode cX4_delegate 123 = .ok (.iload 4, 2) := by decide +kernel
theorem dX4_delegate_125 : decode cX4_delegate 125 = .ok (.iload 5, 2) := by decide +kernel
theorem dX4_delegate_127 : decode cX4_delegate 127 = .ok (.aload 6, 2) := by decide +kernel
theorem dX4_delegate_129 : decode cX4_delegate 129 = .ok (.invokespecial 92, 3) := by decide +kernel
theorem dX4_delegate_132 : decode cX4_delegate 132 = .ok (.iload_n 3, 1) := by decide +kernel
theorem dX4_delegate_133 : decode cX4_delegate 133 = .ok (.invokevirtual 95, 3) := by decide +kernel
theorem dX4_delegate_136 : decode cX4_delegate 136 = .ok (.ireturn, 1) := by decide +kernel
theorem dX4_lower_0 : decode cX4_lower 0 = .ok (.aload_n 0, 1) := by decide +kernel
theorem dX4_lower_1 : decode cX4_lower 1 = .ok (.iload_n 1, 1) := by decide +kernel
theorem dX4_lower_2 : decode cX4_lower 2 = .ok (.invokevirtual 99, 3) := by decide +kernel
theorem dX4_lower_5 : decode cX4_lower 5 = .ok (.astore_n 3, 1) := by decide +kernel
theorem dX4_lower_6 : decode cX4_lower 6 = .ok (.aload_n 0, 1) := by decide +kernel
theorem dX4_lower_7 : decode cX4_lower 7 = .ok (.getfield 25, 3) := by decide +kernel
theorem dX4_lower_10 : decode cX4_lower 10 = .ok (.aload_n 3, 1) := by decide +kernel
theorem dX4_lower_11 : decode cX4_lower 11 = .ok (.invokevirtual 106, 3) := by decide +kernel
theorem dX4_lower_14 : decode cX4_lower 14 = .ok (.istore 4, 2) := by decide +kernel
theorem dX4_lower_16 : decode cX4_lower 16 = .ok (.iload_n 2, 1) := by decide +kernel
theorem dX4_lower_17 : decode cX4_lower 17 = .ok (.iconst 1, 1) := by decide +kernel
theorem dX4_lower_18 : decode cX4_lower 18 = .ok (.iload 4, 2) := by decide +kernel
theorem dX4_lower_20 : decode cX4_lower 20 = .ok (.invokestatic 133, 3) := by decide +kernel
theorem dX4_lower_23 : decode cX4_lower 23 = .ok (.ifCond .ne 13, 3) := by decide +kernel
theorem dX4_lower_26 : decode cX4_lower 26 = .ok (.new 47, 3) := by decide +kernel
theorem dX4_lower_29 : decode cX4_lower 29 = .ok (.dup, 1) := by decide +kernel
theorem dX4_lower_30 : decode cX4_lower 30 = .ok (.ldc 137, 2) := by decide +kernel
theorem dX4_lower_32 : decode cX4_lower 32 = .ok (.invokespecial 51, 3) := by decide +kernel
theorem dX4_lower_35 : decode cX4_lower 35 = .ok (.athrow, 1) := by decide +kernel
theorem dX4_lower_36 : decode cX4_lower 36 = .ok (.aload_n 0, 1) := by decide +kernel
theorem dX4_lower_37 : decode cX4_lower 37 = .ok (.iconst 0, 1) := by decide +kernel
theorem dX4_lower_38 : decode cX4_lower 38 = .ok (.iload_n 1, 1) := by decide +kernel
theorem dX4_lower_39 : decode cX4_lower 39 = .ok (.iload_n 2, 1) := by decide +kernel
theorem dX4_lower_40 : decode cX4_lower 40 = .ok (.invokevirtual 56, 3) := by decide +kernel
theorem dX4_lower_43 : decode cX4_lower 43 = .ok (.iload 4, 2) := by decide +kernel
theorem dX4_lower_45 : decode cX4_lower 45 = .ok (.ireturn, 1) := by decide +kernel
theorem dX4_revoke_0 : decode cX4_revoke 0 = .ok (.aload_n 0, 1) := by decide +kernel
theorem dX4_revoke_1 : decode cX4_revoke 1 = .ok (.iload_n 1, 1) := by decide +kernel
theorem dX4_revoke_2 : decode cX4_revoke 2 = .ok (.invokevirtual 99, 3) := by decide +kernel
theorem dX4_revoke_5 : decode cX4_revoke 5 = .ok (.astore_n 2, 1) := by decide +kernel
theorem dX4_revoke_6 : decode cX4_revoke 6 = .ok (.aload_n 0, 1) := by decide +kernel
theorem dX4_revoke_7 : decode cX4_revoke 7 = .ok (.getfield 25, 3) := by decide +kernel
theorem dX4_revoke_10 : decode cX4_revoke 10 = .ok (.aload_n 2, 1) := by decide +kernel
theorem dX4_revoke_11 : decode cX4_revoke 11 = .ok (.invokevirtual 121, 3) := by decide +kernel
theorem dX4_revoke_14 : decode cX4_revoke 14 = .ok (.ifCond .eq 13, 3) := by decide +kernel
theorem dX4_revoke_17 : decode cX4_revoke 17 = .ok (.new 36, 3) := by decide +kernel
theorem dX4_revoke_20 : decode cX4_revoke 20 = .ok (.dup, 1) := by decide +kernel
theorem dX4_revoke_21 : decode cX4_revoke 21 = .ok (.ldc 125, 2) := by decide +kernel
theorem dX4_revoke_23 : decode cX4_revoke 23 = .ok (.invokespecial 40, 3) := by decide +kernel
theorem dX4_revoke_26 : decode cX4_revoke 26 = .ok (.athrow, 1) := by decide +kernel
theorem dX4_revoke_27 : decode cX4_revoke 27 = .ok (.aload_n 0, 1) := by decide +kernel
theorem dX4_revoke_28 : decode cX4_revoke 28 = .ok (.iconst 1, 1) := by decide +kernel
theorem dX4_revoke_29 : decode cX4_revoke 29 = .ok (.iload_n 1, 1) := by decide +kernel
theorem dX4_revoke_30 : decode cX4_revoke 30 = .ok (.iconst (-1), 1) := by decide +kernel
theorem dX4_revoke_31 : decode cX4_revoke 31 = .ok (.invokevirtual 56, 3) := by decide +kernel
theorem dX4_revoke_34 : decode cX4_revoke 34 = .ok (.aload_n 0, 1) := by decide +kernel
theorem dX4_revoke_35 : decode cX4_revoke 35 = .ok (.aload_n 2, 1) := by decide +kernel
theorem dX4_revoke_36 : decode cX4_revoke 36 = .ok (.invokevirtual 139, 3) := by decide +kernel
theorem dX4_revoke_39 : decode cX4_revoke 39 = .ok (.ireturn, 1) := by decide +kernel
theorem dX4_sign_0 : decode cX4_sign 0 = .ok (.aload_n 0, 1) := by decide +kernel
theorem dX4_sign_1 : decode cX4_sign 1 = .ok (.iload_n 1, 1) := by decide +kernel
theorem dX4_sign_2 : decode cX4_sign 2 = .ok (.invokevirtual 43, 3) := by decide +kernel
theorem dX4_sign_5 : decode cX4_sign 5 = .ok (.iload_n 2, 1) := by decide +kernel
theorem dX4_sign_6 : decode cX4_sign 6 = .ok (.iload_n 3, 1) := by decide +kernel
theorem dX4_sign_7 : decode cX4_sign 7 = .ok (.iload 4, 2) := by decide +kernel
theorem dX4_sign_9 : decode cX4_sign 9 = .ok (.invokestatic 186, 3) := by decide +kernel
theorem dX4_sign_12 : decode cX4_sign 12 = .ok (.aload_n 0, 1) := by decide +kernel
theorem dX4_sign_13 : decode cX4_sign 13 = .ok (.invokevirtual 189, 3) := by decide +kernel
theorem dX4_sign_16 : decode cX4_sign 16 = .ok (.aload_n 0, 1) := by decide +kernel
theorem dX4_sign_17 : decode cX4_sign 17 = .ok (.new 192, 3) := by decide +kernel
theorem dX4_sign_20 : decode cX4_sign 20 = .ok (.dup, 1) := by decide +kernel
theorem dX4_sign_21 : decode cX4_sign 21 = .ok (.aload_n 0, 1) := by decide +kernel
theorem dX4_sign_22 : decode cX4_sign 22 = .ok (.getfield 16, 3) := by decide +kernel
theorem dX4_sign_25 : decode cX4_sign 25 = .ok (.invokeinterface 86 1, 5) := by decide +kernel
theorem dX4_sign_30 : decode cX4_sign 30 = .ok (.iload_n 1, 1) := by decide +kernel
theorem dX4_sign_31 : decode cX4_sign 31 = .ok (.iconst (-1), 1) := by decide +kernel
theorem dX4_sign_32 : decode cX4_sign 32 = .ok (.iload_n 2, 1) := by decide +kernel
theorem dX4_sign_33 : decode cX4_sign 33 = .ok (.iload_n 3, 1) := by decide +kernel
theorem dX4_sign_34 : decode cX4_sign 34 = .ok (.iload 4, 2) := by decide +kernel
theorem dX4_sign_36 : decode cX4_sign 36 = .ok (.invokespecial 194, 3) := by decide +kernel
theorem dX4_sign_39 : decode cX4_sign 39 = .ok (.invokevirtual 197, 3) := by decide +kernel
theorem dX4_sign_42 : decode cX4_sign 42 = .ok (.ireturn, 1) := by decide +kernel
theorem dX4_signTogether_0 : decode cX4_signTogether 0 = .ok (.aload_n 0, 1) := by decide +kernel
theorem dX4_signTogether_1 : decode cX4_signTogether 1 = .ok (.iload_n 1, 1) := by decide +kernel
theorem dX4_signTogether_2 : decode cX4_signTogether 2 = .ok (.invokevirtual 43, 3) := by decide +kernel
theorem dX4_signTogether_5 : decode cX4_signTogether 5 = .ok (.aload_n 0, 1) := by decide +kernel
theorem dX4_signTogether_6 : decode cX4_signTogether 6 = .ok (.iload_n 2, 1) := by decide +kernel
theorem dX4_signTogether_7 : decode cX4_signTogether 7 = .ok (.invokevirtual 43, 3) := by decide +kernel
theorem dX4_signTogether_10 : decode cX4_signTogether 10 = .ok (.iload_n 3, 1) := by decide +kernel
theorem dX4_signTogether_11 : decode cX4_signTogether 11 = .ok (.iload 4, 2) := by decide +kernel
theorem dX4_signTogether_13 : decode cX4_signTogether 13 = .ok (.iload 5, 2) := by decide +kernel
theorem dX4_signTogether_15 : decode cX4_signTogether 15 = .ok (.invokestatic 186, 3) := by decide +kernel
theorem dX4_signTogether_18 : decode cX4_signTogether 18 = .ok (.iload_n 1, 1) := by decide +kernel
theorem dX4_signTogether_19 : decode cX4_signTogether 19 = .ok (.iload_n 2, 1) := by decide +kernel
theorem dX4_signTogether_20 : decode cX4_signTogether 20 = .ok (.invokestatic 171, 3) := by decide +kernel
theorem dX4_signTogether_23 : decode cX4_signTogether 23 = .ok (.aload_n 0, 1) := by decide +kernel
theorem dX4_signTogether_24 : decode cX4_signTogether 24 = .ok (.invokevirtual 189, 3) := by decide +kernel
theorem dX4_signTogether_27 : decode cX4_signTogether 27 = .ok (.aload_n 0, 1) := by decide +kernel
theorem dX4_signTogether_28 : decode cX4_signTogether 28 = .ok (.new 192, 3) := by decide +kernel
theorem dX4_signTogether_31 : decode cX4_signTogether 31 = .ok (.dup, 1) := by decide +kernel
theorem dX4_signTogether_32 : decode cX4_signTogether 32 = .ok (.aload_n 0, 1) := by decide +kernel
theorem dX4_signTogether_33 : decode cX4_signTogether 33 = .ok (.getfield 16, 3) := by decide +kernel
theorem dX4_signTogether_36 : decode cX4_signTogether 36 = .ok (.invokeinterface 86 1, 5) := by decide +kernel
theorem dX4_signTogether_41 : decode cX4_signTogether 41 = .ok (.iload_n 1, 1) := by decide +kernel
theorem dX4_signTogether_42 : decode cX4_signTogether 42 = .ok (.iload_n 2, 1) := by decide +kernel
theorem dX4_signTogether_43 : decode cX4_signTogether 43 = .ok (.iload_n 3, 1) := by decide +kernel
theorem dX4_signTogether_44 : decode cX4_signTogether 44 = .ok (.iload 4, 2) := by decide +kernel
theorem dX4_signTogether_46 : decode cX4_signTogether 46 = .ok (.iload 5, 2) := by decide +kernel
theorem dX4_signTogether_48 : decode cX4_signTogether 48 = .ok (.invokespecial 194, 3) := by decide +kernel
theorem dX4_signTogether_51 : decode cX4_signTogether 51 = .ok (.invokevirtual 197, 3) := by decide +kernel
theorem dX4_signTogether_54 : decode cX4_signTogether 54 = .ok (.ireturn, 1) := by decide +kernel
theorem dX4_ratify_0 : decode cX4_ratify 0 = .ok (.aload_n 0, 1) := by decide +kernel
theorem dX4_ratify_1 : decode cX4_ratify 1 = .ok (.iload_n 1, 1) := by decide +kernel
theorem dX4_ratify_2 : decode cX4_ratify 2 = .ok (.invokevirtual 201, 3) := by decide +kernel
theorem dX4_ratify_5 : decode cX4_ratify 5 = .ok (.astore_n 3, 1) := by decide +kernel
theorem dX4_ratify_6 : decode cX4_ratify 6 = .ok (.aload_n 0, 1) := by decide +kernel
theorem dX4_ratify_7 : decode cX4_ratify 7 = .ok (.iload_n 2, 1) := by decide +kernel
theorem dX4_ratify_8 : decode cX4_ratify 8 = .ok (.invokevirtual 43, 3) := by decide +kernel
theorem dX4_ratify_11 : decode cX4_ratify 11 = .ok (.aload_n 3, 1) := by decide +kernel
theorem dX4_ratify_12 : decode cX4_ratify 12 = .ok (.invokestatic 205, 3) := by decide +kernel
theorem dX4_ratify_15 : decode cX4_ratify 15 = .ok (.aload_n 0, 1) := by decide +kernel
theorem dX4_ratify_16 : decode cX4_ratify 16 = .ok (.iload_n 2, 1) := by decide +kernel
theorem dX4_ratify_17 : decode cX4_ratify 17 = .ok (.aload_n 3, 1) := by decide +kernel
theorem dX4_ratify_18 : decode cX4_ratify 18 = .ok (.getfield 209, 3) := by decide +kernel
theorem dX4_ratify_21 : decode cX4_ratify 21 = .ok (.aload_n 3, 1) := by decide +kernel
theorem dX4_ratify_22 : decode cX4_ratify 22 = .ok (.getfield 210, 3) := by decide +kernel
theorem dX4_ratify_25 : decode cX4_ratify 25 = .ok (.aload_n 0, 1) := by decide +kernel
theorem dX4_ratify_26 : decode cX4_ratify 26 = .ok (.getfield 25, 3) := by decide +kernel
theorem dX4_ratify_29 : decode cX4_ratify 29 = .ok (.invokevirtual 167, 3) := by decide +kernel
theorem dX4_ratify_32 : decode cX4_ratify 32 = .ok (.ifCond .ne 13, 3) := by decide +kernel
theorem dX4_ratify_35 : decode cX4_ratify 35 = .ok (.new 116, 3) := by decide +kernel
theorem dX4_ratify_38 : decode cX4_ratify 38 = .ok (.dup, 1) := by decide +kernel
theorem dX4_ratify_39 : decode cX4_ratify 39 = .ok (.ldc 213, 2) := by decide +kernel
theorem dX4_ratify_41 : decode cX4_ratify 41 = .ok (.invokespecial 120, 3) := by decide +kernel
theorem dX4_ratify_44 : decode cX4_ratify 44 = .ok (.athrow, 1) := by decide +kernel
theorem dX4_ratify_45 : decode cX4_ratify 45 = .ok (.aload_n 3, 1) := by decide +kernel
theorem dX4_ratify_46 : decode cX4_ratify 46 = .ok (.bipush 114, 2) := by decide +kernel
theorem dX4_ratify_48 : decode cX4_ratify 48 = .ok (.putfield 215, 3) := by decide +kernel
theorem dX4_ratify_51 : decode cX4_ratify 51 = .ok (.aload_n 3, 1) := by decide +kernel
theorem dX4_ratify_52 : decode cX4_ratify 52 = .ok (.iload_n 2, 1) := by decide +kernel
theorem dX4_ratify_53 : decode cX4_ratify 53 = .ok (.putfield 219, 3) := by decide +kernel
theorem dX4_ratify_56 : decode cX4_ratify 56 = .ok (.aload_n 3, 1) := by decide +kernel
theorem dX4_ratify_57 : decode cX4_ratify 57 = .ok (.aload_n 0, 1) := by decide +kernel
theorem dX4_ratify_58 : decode cX4_ratify 58 = .ok (.getfield 25, 3) := by decide +kernel
theorem dX4_ratify_61 : decode cX4_ratify 61 = .ok (.getfield 222, 3) := by decide +kernel
theorem dX4_ratify_64 : decode cX4_ratify 64 = .ok (.putfield 225, 3) := by decide +kernel
theorem dX4_ratify_67 : decode cX4_ratify 67 = .ok (.aload_n 3, 1) := by decide +kernel
theorem dX4_ratify_68 : decode cX4_ratify 68 = .ok (.aload_n 0, 1) := by decide +kernel
theorem dX4_ratify_69 : decode cX4_ratify 69 = .ok (.getfield 19, 3) := by decide +kernel
theorem dX4_ratify_72 : decode cX4_ratify 72 = .ok (.invokeinterface 86 1, 5) := by decide +kernel
theorem dX4_ratify_77 : decode cX4_ratify 77 = .ok (.putfield 228, 3) := by decide +kernel
theorem dX4_ratify_80 : decode cX4_ratify 80 = .ok (.aload_n 3, 1) := by decide +kernel
theorem dX4_ratify_81 : decode cX4_ratify 81 = .ok (.getfield 210, 3) := by decide +kernel
theorem dX4_ratify_84 : decode cX4_ratify 84 = .ok (.ireturn, 1) := by decide +kernel
theorem dX4_annul_0 : decode cX4_annul 0 = .ok (.aload_n 0, 1) := by decide +kernel
theorem dX4_annul_1 : decode cX4_annul 1 = .ok (.iload_n 1, 1) := by decide +kernel
theorem dX4_annul_2 : decode cX4_annul 2 = .ok (.invokevirtual 201, 3) := by decide +kernel
theorem dX4_annul_5 : decode cX4_annul 5 = .ok (.astore_n 2, 1) := by decide +kernel
theorem dX4_annul_6 : decode cX4_annul 6 = .ok (.aload_n 2, 1) := by decide +kernel
theorem dX4_annul_7 : decode cX4_annul 7 = .ok (.invokestatic 205, 3) := by decide +kernel
theorem dX4_annul_10 : decode cX4_annul 10 = .ok (.aload_n 2, 1) := by decide +kernel
theorem dX4_annul_11 : decode cX4_annul 11 = .ok (.bipush 110, 2) := by decide +kernel
theorem dX4_annul_13 : decode cX4_annul 13 = .ok (.putfield 215, 3) := by decide +kernel
theorem dX4_annul_16 : decode cX4_annul 16 = .ok (.aload_n 0, 1) := by decide +kernel
theorem dX4_annul_17 : decode cX4_annul 17 = .ok (.iconst 4, 1) := by decide +kernel
theorem dX4_annul_18 : decode cX4_annul 18 = .ok (.iload_n 1, 1) := by decide +kernel
theorem dX4_annul_19 : decode cX4_annul 19 = .ok (.iconst (-1), 1) := by decide +kernel
theorem dX4_annul_20 : decode cX4_annul 20 = .ok (.invokevirtual 56, 3) := by decide +kernel
theorem dX4_annul_23 : decode cX4_annul 23 = .ok (.aload_n 0, 1) := by decide +kernel
theorem dX4_annul_24 : decode cX4_annul 24 = .ok (.invokevirtual 231, 3) := by decide +kernel
theorem dX4_annul_27 : decode cX4_annul 27 = .ok (.ireturn, 1) := by decide +kernel
theorem dX4_status_0 : decode cX4_status 0 = .ok (.aload_n 0, 1) := by decide +kernel
theorem dX4_status_1 : decode cX4_status 1 = .ok (.iload_n 1, 1) := by decide +kernel
theorem dX4_status_2 : decode cX4_status 2 = .ok (.invokevirtual 201, 3) := by decide +kernel
theorem dX4_status_5 : decode cX4_status 5 = .ok (.getfield 215, 3) := by decide +kernel
theorem dX4_status_8 : decode cX4_status 8 = .ok (.ireturn, 1) := by decide +kernel
theorem dX4_sum_0 : decode cX4_sum 0 = .ok (.aload_n 0, 1) := by decide +kernel
theorem dX4_sum_1 : decode cX4_sum 1 = .ok (.iload_n 1, 1) := by decide +kernel
theorem dX4_sum_2 : decode cX4_sum 2 = .ok (.invokevirtual 201, 3) := by decide +kernel
theorem dX4_sum_5 : decode cX4_sum 5 = .ok (.getfield 210, 3) := by decide +kernel
theorem dX4_sum_8 : decode cX4_sum 8 = .ok (.ireturn, 1) := by decide +kernel
theorem dX4_stands_0 : decode cX4_stands 0 = .ok (.aload_n 0, 1) := by decide +kernel
theorem dX4_stands_1 : decode cX4_stands 1 = .ok (.iload_n 1, 1) := by decide +kernel
theorem dX4_stands_2 : decode cX4_stands 2 = .ok (.invokevirtual 201, 3) := by decide +kernel
theorem dX4_stands_5 : decode cX4_stands 5 = .ok (.invokevirtual 247, 3) := by decide +kernel
theorem dX4_stands_8 : decode cX4_stands 8 = .ok (.ireturn, 1) := by decide +kernel
theorem dX4_lack_0 : decode cX4_lack 0 = .ok (.aload_n 0, 1) := by decide +kernel
theorem dX4_lack_1 : decode cX4_lack 1 = .ok (.iload_n 1, 1) := by decide +kernel
theorem dX4_lack_2 : decode cX4_lack 2 = .ok (.invokevirtual 201, 3) := by decide +kernel
theorem dX4_lack_5 : decode cX4_lack 5 = .ok (.astore_n 2, 1) := by decide +kernel
theorem dX4_lack_6 : decode cX4_lack 6 = .ok (.aload_n 2, 1) := by decide +kernel
theorem dX4_lack_7 : decode cX4_lack 7 = .ok (.getfield 255, 3) := by decide +kernel
theorem dX4_lack_10 : decode cX4_lack 10 = .ok (.bipush 45, 2) := by decide +kernel
theorem dX4_lack_12 : decode cX4_lack 12 = .ok (.if_icmp .ne 14, 3) := by decide +kernel
theorem dX4_lack_15 : decode cX4_lack 15 = .ok (.new 159, 3) := by decide +kernel
theorem dX4_lack_18 : decode cX4_lack 18 = .ok (.dup, 1) := by decide +kernel
theorem dX4_lack_19 : decode cX4_lack 19 = .ok (.ldc_w 258, 3) := by decide +kernel
theorem dX4_lack_22 : decode cX4_lack 22 = .ok (.invokespecial 163, 3) := by decide +kernel
theorem dX4_lack_25 : decode cX4_lack 25 = .ok (.athrow, 1) := by decide +kernel
theorem dX4_lack_26 : decode cX4_lack 26 = .ok (.aload_n 2, 1) := by decide +kernel
theorem dX4_lack_27 : decode cX4_lack 27 = .ok (.getfield 255, 3) := by decide +kernel
theorem dX4_lack_30 : decode cX4_lack 30 = .ok (.ireturn, 1) := by decide +kernel
theorem dX4_lackPower_0 : decode cX4_lackPower 0 = .ok (.aload_n 0, 1) := by decide +kernel
theorem dX4_lackPower_1 : decode cX4_lackPower 1 = .ok (.iload_n 1, 1) := by decide +kernel
theorem dX4_lackPower_2 : decode cX4_lackPower 2 = .ok (.invokevirtual 201, 3) := by decide +kernel
theorem dX4_lackPower_5 : decode cX4_lackPower 5 = .ok (.astore_n 2, 1) := by decide +kernel
theorem dX4_lackPower_6 : decode cX4_lackPower 6 = .ok (.aload_n 2, 1) := by decide +kernel
theorem dX4_lackPower_7 : decode cX4_lackPower 7 = .ok (.invokestatic 260, 3) := by decide +kernel
theorem dX4_lackPower_10 : decode cX4_lackPower 10 = .ok (.aload_n 2, 1) := by decide +kernel
theorem dX4_lackPower_11 : decode cX4_lackPower 11 = .ok (.getfield 263, 3) := by decide +kernel
theorem dX4_lackPower_14 : decode cX4_lackPower 14 = .ok (.ireturn, 1) := by decide +kernel
theorem dX4_lackDepth_0 : decode cX4_lackDepth 0 = .ok (.aload_n 0, 1) := by decide +kernel
theorem dX4_lackDepth_1 : decode cX4_lackDepth 1 = .ok (.iload_n 1, 1) := by decide +kernel
theorem dX4_lackDepth_2 : decode cX4_lackDepth 2 = .ok (.invokevirtual 201, 3) := by decide +kernel
theorem dX4_lackDepth_5 : decode cX4_lackDepth 5 = .ok (.astore_n 2, 1) := by decide +kernel
theorem dX4_lackDepth_6 : decode cX4_lackDepth 6 = .ok (.aload_n 2, 1) := by decide +kernel
theorem dX4_lackDepth_7 : decode cX4_lackDepth 7 = .ok (.invokestatic 260, 3) := by decide +kernel
theorem dX4_lackDepth_10 : decode cX4_lackDepth 10 = .ok (.aload_n 2, 1) := by decide +kernel
theorem dX4_lackDepth_11 : decode cX4_lackDepth 11 = .ok (.getfield 266, 3) := by decide +kernel
theorem dX4_lackDepth_14 : decode cX4_lackDepth 14 = .ok (.ireturn, 1) := by decide +kernel
theorem dX4_setWindow_0 : decode cX4_setWindow 0 = .ok (.iload_n 1, 1) := by decide +kernel
theorem dX4_setWindow_1 : decode cX4_setWindow 1 = .ok (.invokestatic 269, 3) := by decide +kernel
theorem dX4_setWindow_4 : decode cX4_setWindow 4 = .ok (.aload_n 0, 1) := by decide +kernel
theorem dX4_setWindow_5 : decode cX4_setWindow 5 = .ok (.getfield 25, 3) := by decide +kernel
theorem dX4_setWindow_8 : decode cX4_setWindow 8 = .ok (.getfield 272, 3) := by decide +kernel
theorem dX4_setWindow_11 : decode cX4_setWindow 11 = .ok (.istore_n 2, 1) := by decide +kernel
theorem dX4_setWindow_12 : decode cX4_setWindow 12 = .ok (.aload_n 0, 1) := by decide +kernel
theorem dX4_setWindow_13 : decode cX4_setWindow 13 = .ok (.iconst 3, 1) := by decide +kernel
theorem dX4_setWindow_14 : decode cX4_setWindow 14 = .ok (.iconst (-1), 1) := by decide +kernel
theorem dX4_setWindow_15 : decode cX4_setWindow 15 = .ok (.iload_n 1, 1) := by decide +kernel
theorem dX4_setWindow_16 : decode cX4_setWindow 16 = .ok (.invokevirtual 56, 3) := by decide +kernel
theorem dX4_setWindow_19 : decode cX4_setWindow 19 = .ok (.iload_n 2, 1) := by decide +kernel
theorem dX4_setWindow_20 : decode cX4_setWindow 20 = .ok (.ireturn, 1) := by decide +kernel
theorem dX4_pass_0 : decode cX4_pass 0 = .ok (.iload_n 1, 1) := by decide +kernel
theorem dX4_pass_1 : decode cX4_pass 1 = .ok (.invokestatic 269, 3) := by decide +kernel
theorem dX4_pass_4 : decode cX4_pass 4 = .ok (.aload_n 0, 1) := by decide +kernel
theorem dX4_pass_5 : decode cX4_pass 5 = .ok (.getfield 25, 3) := by decide +kernel
theorem dX4_pass_8 : decode cX4_pass 8 = .ok (.getfield 222, 3) := by decide +kernel
theorem dX4_pass_11 : decode cX4_pass 11 = .ok (.iload_n 1, 1) := by decide +kernel
theorem dX4_pass_12 : decode cX4_pass 12 = .ok (.iadd, 1) := by decide +kernel
theorem dX4_pass_13 : decode cX4_pass 13 = .ok (.sipush 999, 3) := by decide +kernel
theorem dX4_pass_16 : decode cX4_pass 16 = .ok (.if_icmp .le 14, 3) := by decide +kernel
theorem dX4_pass_19 : decode cX4_pass 19 = .ok (.new 47, 3) := by decide +kernel
theorem dX4_pass_22 : decode cX4_pass 22 = .ok (.dup, 1) := by decide +kernel
theorem dX4_pass_23 : decode cX4_pass 23 = .ok (.ldc_w 275, 3) := by decide +kernel
theorem dX4_pass_26 : decode cX4_pass 26 = .ok (.invokespecial 51, 3) := by decide +kernel
theorem dX4_pass_29 : decode cX4_pass 29 = .ok (.athrow, 1) := by decide +kernel
theorem dX4_pass_30 : decode cX4_pass 30 = .ok (.aload_n 0, 1) := by decide +kernel
theorem dX4_pass_31 : decode cX4_pass 31 = .ok (.getfield 25, 3) := by decide +kernel
theorem dX4_pass_34 : decode cX4_pass 34 = .ok (.dup, 1) := by decide +kernel
theorem dX4_pass_35 : decode cX4_pass 35 = .ok (.getfield 222, 3) := by decide +kernel
theorem dX4_pass_38 : decode cX4_pass 38 = .ok (.iload_n 1, 1) := by decide +kernel
theorem dX4_pass_39 : decode cX4_pass 39 = .ok (.iadd, 1) := by decide +kernel
theorem dX4_pass_40 : decode cX4_pass 40 = .ok (.putfield 222, 3) := by decide +kernel
theorem dX4_pass_43 : decode cX4_pass 43 = .ok (.aload_n 0, 1) := by decide +kernel
theorem dX4_pass_44 : decode cX4_pass 44 = .ok (.getfield 25, 3) := by decide +kernel
theorem dX4_pass_47 : decode cX4_pass 47 = .ok (.getfield 222, 3) := by decide +kernel
theorem dX4_pass_50 : decode cX4_pass 50 = .ok (.ireturn, 1) := by decide +kernel
theorem dX4_today_0 : decode cX4_today 0 = .ok (.aload_n 0, 1) := by decide +kernel
theorem dX4_today_1 : decode cX4_today 1 = .ok (.getfield 25, 3) := by decide +kernel
theorem dX4_today_4 : decode cX4_today 4 = .ok (.getfield 222, 3) := by decide +kernel
theorem dX4_today_7 : decode cX4_today 7 = .ok (.ireturn, 1) := by decide +kernel
theorem dX4_bound_0 : decode cX4_bound 0 = .ok (.lconst 0, 1) := by decide +kernel
theorem dX4_bound_1 : decode cX4_bound 1 = .ok (.lstore_n 1, 1) := by decide +kernel
theorem dX4_bound_2 : decode cX4_bound 2 = .ok (.iconst 0, 1) := by decide +kernel
theorem dX4_bound_3 : decode cX4_bound 3 = .ok (.istore_n 3, 1) := by decide +kernel
theorem dX4_bound_4 : decode cX4_bound 4 = .ok (.iload_n 3, 1) := by decide +kernel
theorem dX4_bound_5 : decode cX4_bound 5 = .ok (.aload_n 0, 1) := by decide +kernel
theorem dX4_bound_6 : decode cX4_bound 6 = .ok (.getfield 16, 3) := by decide +kernel
theorem dX4_bound_9 : decode cX4_bound 9 = .ok (.invokeinterface 86 1, 5) := by decide +kernel
theorem dX4_bound_14 : decode cX4_bound 14 = .ok (.if_icmp .ge 41, 3) := by decide +kernel
theorem dX4_bound_17 : decode cX4_bound 17 = .ok (.aload_n 0, 1) := by decide +kernel
theorem dX4_bound_18 : decode cX4_bound 18 = .ok (.getfield 16, 3) := by decide +kernel
theorem dX4_bound_21 : decode cX4_bound 21 = .ok (.iload_n 3, 1) := by decide +kernel
theorem dX4_bound_22 : decode cX4_bound 22 = .ok (.invokeinterface 277 2, 5) := by decide +kernel
theorem dX4_bound_27 : decode cX4_bound 27 = .ok (.checkcast 192, 3) := by decide +kernel
theorem dX4_bound_30 : decode cX4_bound 30 = .ok (.astore 4, 2) := by decide +kernel
theorem dX4_bound_32 : decode cX4_bound 32 = .ok (.aload 4, 2) := by decide +kernel
theorem dX4_bound_34 : decode cX4_bound 34 = .ok (.invokevirtual 247, 3) := by decide +kernel
theorem dX4_bound_37 : decode cX4_bound 37 = .ok (.ifCond .eq 12, 3) := by decide +kernel
theorem dX4_bound_40 : decode cX4_bound 40 = .ok (.lload_n 1, 1) := by decide +kernel
theorem dX4_bound_41 : decode cX4_bound 41 = .ok (.aload 4, 2) := by decide +kernel
theorem dX4_bound_43 : decode cX4_bound 43 = .ok (.getfield 281, 3) := by decide +kernel
theorem dX4_bound_46 : decode cX4_bound 46 = .ok (.i2l, 1) := by decide +kernel
theorem dX4_bound_47 : decode cX4_bound 47 = .ok (.ladd, 1) := by decide +kernel
theorem dX4_bound_48 : decode cX4_bound 48 = .ok (.lstore_n 1, 1) := by decide +kernel
theorem dX4_bound_49 : decode cX4_bound 49 = .ok (.iinc 3 1, 3) := by decide +kernel
theorem dX4_bound_52 : decode cX4_bound 52 = .ok (.goto (-48), 3) := by decide +kernel
theorem dX4_bound_55 : decode cX4_bound 55 = .ok (.lload_n 1, 1) := by decide +kernel
theorem dX4_bound_56 : decode cX4_bound 56 = .ok (.lreturn, 1) := by decide +kernel
theorem dX4_standingShare_0 : decode cX4_standingShare 0 = .ok (.aload_n 0, 1) := by decide +kernel
theorem dX4_standingShare_1 : decode cX4_standingShare 1 = .ok (.getfield 16, 3) := by decide +kernel
theorem dX4_standingShare_4 : decode cX4_standingShare 4 = .ok (.invokeinterface 86 1, 5) := by decide +kernel
theorem dX4_standingShare_9 : decode cX4_standingShare 9 = .ok (.istore_n 1, 1) := by decide +kernel
theorem dX4_standingShare_10 : decode cX4_standingShare 10 = .ok (.iload_n 1, 1) := by decide +kernel
theorem dX4_standingShare_11 : decode cX4_standingShare 11 = .ok (.ifCond .ne 14, 3) := by decide +kernel
theorem dX4_standingShare_14 : decode cX4_standingShare 14 = .ok (.new 159, 3) := by decide +kernel
theorem dX4_standingShare_17 : decode cX4_standingShare 17 = .ok (.dup, 1) := by decide +kernel
theorem dX4_standingShare_18 : decode cX4_standingShare 18 = .ok (.ldc_w 284, 3) := by decide +kernel
theorem dX4_standingShare_21 : decode cX4_standingShare 21 = .ok (.invokespecial 163, 3) := by decide +kernel
theorem dX4_standingShare_24 : decode cX4_standingShare 24 = .ok (.athrow, 1) := by decide +kernel
theorem dX4_standingShare_25 : decode cX4_standingShare 25 = .ok (.iconst 0, 1) := by decide +kernel
theorem dX4_standingShare_26 : decode cX4_standingShare 26 = .ok (.istore_n 2, 1) := by decide +kernel
theorem dX4_standingShare_27 : decode cX4_standingShare 27 = .ok (.iconst 0, 1) := by decide +kernel
theorem dX4_standingShare_28 : decode cX4_standingShare 28 = .ok (.istore_n 3, 1) := by decide +kernel
theorem dX4_standingShare_29 : decode cX4_standingShare 29 = .ok (.iload_n 3, 1) := by decide +kernel
theorem dX4_standingShare_30 : decode cX4_standingShare 30 = .ok (.iload_n 1, 1) := by decide +kernel
theorem dX4_standingShare_31 : decode cX4_standingShare 31 = .ok (.if_icmp .ge 31, 3) := by decide +kernel
theorem dX4_standingShare_34 : decode cX4_standingShare 34 = .ok (.aload_n 0, 1) := by decide +kernel
theorem dX4_standingShare_35 : decode cX4_standingShare 35 = .ok (.getfield 16, 3) := by decide +kernel
theorem dX4_standingShare_38 : decode cX4_standingShare 38 = .ok (.iload_n 3, 1) := by decide +kernel
theorem dX4_standingShare_39 : decode cX4_standingShare 39 = .ok (.invokeinterface 277 2, 5) := by decide +kernel
theorem dX4_standingShare_44 : decode cX4_standingShare 44 = .ok (.checkcast 192, 3) := by decide +kernel
theorem dX4_standingShare_47 : decode cX4_standingShare 47 = .ok (.invokevirtual 247, 3) := by decide +kernel
theorem dX4_standingShare_50 : decode cX4_standingShare 50 = .ok (.ifCond .eq 6, 3) := by decide +kernel
theorem dX4_standingShare_53 : decode cX4_standingShare 53 = .ok (.iinc 2 1, 3) := by decide +kernel
theorem dX4_standingShare_56 : decode cX4_standingShare 56 = .ok (.iinc 3 1, 3) := by decide +kernel
theorem dX4_standingShare_59 : decode cX4_standingShare 59 = .ok (.goto (-30), 3) := by decide +kernel
theorem dX4_standingShare_62 : decode cX4_standingShare 62 = .ok (.iload_n 2, 1) := by decide +kernel
theorem dX4_standingShare_63 : decode cX4_standingShare 63 = .ok (.i2f, 1) := by decide +kernel
theorem dX4_standingShare_64 : decode cX4_standingShare 64 = .ok (.iload_n 1, 1) := by decide +kernel
theorem dX4_standingShare_65 : decode cX4_standingShare 65 = .ok (.i2f, 1) := by decide +kernel
theorem dX4_standingShare_66 : decode cX4_standingShare 66 = .ok (.fdiv, 1) := by decide +kernel
theorem dX4_standingShare_67 : decode cX4_standingShare 67 = .ok (.freturn, 1) := by decide +kernel
theorem dX4_isBetween_0 : decode cX4_isBetween 0 = .ok (.iload_n 0, 1) := by decide +kernel
theorem dX4_isBetween_1 : decode cX4_isBetween 1 = .ok (.iload_n 1, 1) := by decide +kernel
theorem dX4_isBetween_2 : decode cX4_isBetween 2 = .ok (.if_icmp .lt 12, 3) := by decide +kernel
theorem dX4_isBetween_5 : decode cX4_isBetween 5 = .ok (.iload_n 0, 1) := by decide +kernel
theorem dX4_isBetween_6 : decode cX4_isBetween 6 = .ok (.iload_n 2, 1) := by decide +kernel
theorem dX4_isBetween_7 : decode cX4_isBetween 7 = .ok (.if_icmp .gt 7, 3) := by decide +kernel
theorem dX4_isBetween_10 : decode cX4_isBetween 10 = .ok (.iconst 1, 1) := by decide +kernel
theorem dX4_isBetween_11 : decode cX4_isBetween 11 = .ok (.goto 4, 3) := by decide +kernel
theorem dX4_isBetween_14 : decode cX4_isBetween 14 = .ok (.iconst 0, 1) := by decide +kernel
theorem dX4_isBetween_15 : decode cX4_isBetween 15 = .ok (.ireturn, 1) := by decide +kernel
theorem dX4_isIndex_0 : decode cX4_isIndex 0 = .ok (.iload_n 0, 1) := by decide +kernel
theorem dX4_isIndex_1 : decode cX4_isIndex 1 = .ok (.ifCond .lt 12, 3) := by decide +kernel
theorem dX4_isIndex_4 : decode cX4_isIndex 4 = .ok (.iload_n 0, 1) := by decide +kernel
theorem dX4_isIndex_5 : decode cX4_isIndex 5 = .ok (.iload_n 1, 1) := by decide +kernel
theorem dX4_isIndex_6 : decode cX4_isIndex 6 = .ok (.if_icmp .ge 7, 3) := by decide +kernel
theorem dX4_isIndex_9 : decode cX4_isIndex 9 = .ok (.iconst 1, 1) := by decide +kernel
theorem dX4_isIndex_10 : decode cX4_isIndex 10 = .ok (.goto 4, 3) := by decide +kernel
theorem dX4_isIndex_13 : decode cX4_isIndex 13 = .ok (.iconst 0, 1) := by decide +kernel
theorem dX4_isIndex_14 : decode cX4_isIndex 14 = .ok (.ireturn, 1) := by decide +kernel
theorem dX4_requirePerson_0 : decode cX4_requirePerson 0 = .ok (.iload_n 1, 1) := by decide +kernel
theorem dX4_requirePerson_1 : decode cX4_requirePerson 1 = .ok (.aload_n 0, 1) := by decide +kernel
theorem dX4_requirePerson_2 : decode cX4_requirePerson 2 = .ok (.getfield 32, 3) := by decide +kernel
theorem dX4_requirePerson_5 : decode cX4_requirePerson 5 = .ok (.invokestatic 286, 3) := by decide +kernel
theorem dX4_requirePerson_8 : decode cX4_requirePerson 8 = .ok (.ifCond .ne 14, 3) := by decide +kernel
theorem dX4_requirePerson_11 : decode cX4_requirePerson 11 = .ok (.new 289, 3) := by decide +kernel
theorem dX4_requirePerson_14 : decode cX4_requirePerson 14 = .ok (.dup, 1) := by decide +kernel
theorem dX4_requirePerson_15 : decode cX4_requirePerson 15 = .ok (.ldc_w 291, 3) := by decide +kernel
theorem dX4_requirePerson_18 : decode cX4_requirePerson 18 = .ok (.invokespecial 293, 3) := by decide +kernel
theorem dX4_requirePerson_21 : decode cX4_requirePerson 21 = .ok (.athrow, 1) := by decide +kernel
theorem dX4_requirePerson_22 : decode cX4_requirePerson 22 = .ok (.return_, 1) := by decide +kernel
theorem dX4_findPower_0 : decode cX4_findPower 0 = .ok (.iload_n 1, 1) := by decide +kernel
theorem dX4_findPower_1 : decode cX4_findPower 1 = .ok (.aload_n 0, 1) := by decide +kernel
theorem dX4_findPower_2 : decode cX4_findPower 2 = .ok (.getfield 10, 3) := by decide +kernel
theorem dX4_findPower_5 : decode cX4_findPower 5 = .ok (.invokeinterface 86 1, 5) := by decide +kernel
theorem dX4_findPower_10 : decode cX4_findPower 10 = .ok (.invokestatic 286, 3) := by decide +kernel
theorem dX4_findPower_13 : decode cX4_findPower 13 = .ok (.ifCond .ne 14, 3) := by decide +kernel
theorem dX4_findPower_16 : decode cX4_findPower 16 = .ok (.new 289, 3) := by decide +kernel
theorem dX4_findPower_19 : decode cX4_findPower 19 = .ok (.dup, 1) := by decide +kernel
theorem dX4_findPower_20 : decode cX4_findPower 20 = .ok (.ldc_w 294, 3) := by decide +kernel
theorem dX4_findPower_23 : decode cX4_findPower 23 = .ok (.invokespecial 293, 3) := by decide +kernel
theorem dX4_findPower_26 : decode cX4_findPower 26 = .ok (.athrow, 1) := by decide +kernel
theorem dX4_findPower_27 : decode cX4_findPower 27 = .ok (.aload_n 0, 1) := by decide +kernel
theorem dX4_findPower_28 : decode cX4_findPower 28 = .ok (.getfield 10, 3) := by decide +kernel
theorem dX4_findPower_31 : decode cX4_findPower 31 = .ok (.iload_n 1, 1) := by decide +kernel
theorem dX4_findPower_32 : decode cX4_findPower 32 = .ok (.invokeinterface 277 2, 5) := by decide +kernel
theorem dX4_findPower_37 : decode cX4_findPower 37 = .ok (.checkcast 84, 3) := by decide +kernel
theorem dX4_findPower_40 : decode cX4_findPower 40 = .ok (.areturn, 1) := by decide +kernel
theorem dX4_findDeed_0 : decode cX4_findDeed 0 = .ok (.iload_n 1, 1) := by decide +kernel
theorem dX4_findDeed_1 : decode cX4_findDeed 1 = .ok (.aload_n 0, 1) := by decide +kernel
theorem dX4_findDeed_2 : decode cX4_findDeed 2 = .ok (.getfield 16, 3) := by decide +kernel
theorem dX4_findDeed_5 : decode cX4_findDeed 5 = .ok (.invokeinterface 86 1, 5) := by decide +kernel
theorem dX4_findDeed_10 : decode cX4_findDeed 10 = .ok (.invokestatic 286, 3) := by decide +kernel
theorem dX4_findDeed_13 : decode cX4_findDeed 13 = .ok (.ifCond .ne 14, 3) := by decide +kernel
theorem dX4_findDeed_16 : decode cX4_findDeed 16 = .ok (.new 289, 3) := by decide +kernel
theorem dX4_findDeed_19 : decode cX4_findDeed 19 = .ok (.dup, 1) := by decide +kernel
theorem dX4_findDeed_20 : decode cX4_findDeed 20 = .ok (.ldc_w 296, 3) := by decide +kernel
theorem dX4_findDeed_23 : decode cX4_findDeed 23 = .ok (.invokespecial 293, 3) := by decide +kernel
theorem dX4_findDeed_26 : decode cX4_findDeed 26 = .ok (.athrow, 1) := by decide +kernel
theorem dX4_findDeed_27 : decode cX4_findDeed 27 = .ok (.aload_n 0, 1) := by decide +kernel
theorem dX4_findDeed_28 : decode cX4_findDeed 28 = .ok (.getfield 16, 3) := by decide +kernel
theorem dX4_findDeed_31 : decode cX4_findDeed 31 = .ok (.iload_n 1, 1) := by decide +kernel
theorem dX4_findDeed_32 : decode cX4_findDeed 32 = .ok (.invokeinterface 277 2, 5) := by decide +kernel
theorem dX4_findDeed_37 : decode cX4_findDeed 37 = .ok (.checkcast 192, 3) := by decide +kernel
theorem dX4_findDeed_40 : decode cX4_findDeed 40 = .ok (.areturn, 1) := by decide +kernel
theorem dX4_requireKind_0 : decode cX4_requireKind 0 = .ok (.iload_n 0, 1) := by decide +kernel
theorem dX4_requireKind_1 : decode cX4_requireKind 1 = .ok (.iconst 0, 1) := by decide +kernel
theorem dX4_requireKind_2 : decode cX4_requireKind 2 = .ok (.iconst 3, 1) := by decide +kernel
theorem dX4_requireKind_3 : decode cX4_requireKind 3 = .ok (.invokestatic 133, 3) := by decide +kernel
theorem dX4_requireKind_6 : decode cX4_requireKind 6 = .ok (.ifCond .ne 14, 3) := by decide +kernel
theorem dX4_requireKind_9 : decode cX4_requireKind 9 = .ok (.new 47, 3) := by decide +kernel
theorem dX4_requireKind_12 : decode cX4_requireKind 12 = .ok (.dup, 1) := by decide +kernel
theorem dX4_requireKind_13 : decode cX4_requireKind 13 = .ok (.ldc_w 298, 3) := by decide +kernel
theorem dX4_requireKind_16 : decode cX4_requireKind 16 = .ok (.invokespecial 51, 3) := by decide +kernel
theorem dX4_requireKind_19 : decode cX4_requireKind 19 = .ok (.athrow, 1) := by decide +kernel
theorem dX4_requireKind_20 : decode cX4_requireKind 20 = .ok (.return_, 1) := by decide +kernel
theorem dX4_requireLimitAndDays_0 : decode cX4_requireLimitAndDays 0 = .ok (.iload_n 0, 1) := by decide +kernel
theorem dX4_requireLimitAndDays_1 : decode cX4_requireLimitAndDays 1 = .ok (.iconst 1, 1) := by decide +kernel
theorem dX4_requireLimitAndDays_2 : decode cX4_requireLimitAndDays 2 = .ok (.ldc_w 300, 3) := by decide +kernel
theorem dX4_requireLimitAndDays_5 : decode cX4_requireLimitAndDays 5 = .ok (.invokestatic 133, 3) := by decide +kernel
theorem dX4_requireLimitAndDays_8 : decode cX4_requireLimitAndDays 8 = .ok (.ifCond .ne 14, 3) := by decide +kernel
theorem dX4_requireLimitAndDays_11 : decode cX4_requireLimitAndDays 11 = .ok (.new 47, 3) := by decide +kernel
theorem dX4_requireLimitAndDays_14 : decode cX4_requireLimitAndDays 14 = .ok (.dup, 1) := by decide +kernel
theorem dX4_requireLimitAndDays_15 : decode cX4_requireLimitAndDays 15 = .ok (.ldc_w 303, 3) := by decide +kernel
theorem dX4_requireLimitAndDays_18 : decode cX4_requireLimitAndDays 18 = .ok (.invokespecial 51, 3) := by decide +kernel
theorem dX4_requireLimitAndDays_21 : decode cX4_requireLimitAndDays 21 = .ok (.athrow, 1) := by decide +kernel
theorem dX4_requireLimitAndDays_22 : decode cX4_requireLimitAndDays 22 = .ok (.iload_n 1, 1) := by decide +kernel
theorem dX4_requireLimitAndDays_23 : decode cX4_requireLimitAndDays 23 = .ok (.iconst 0, 1) := by decide +kernel
theorem dX4_requireLimitAndDays_24 : decode cX4_requireLimitAndDays 24 = .ok (.sipush 999, 3) := by decide +kernel
theorem dX4_requireLimitAndDays_27 : decode cX4_requireLimitAndDays 27 = .ok (.invokestatic 133, 3) := by decide +kernel
theorem dX4_requireLimitAndDays_30 : decode cX4_requireLimitAndDays 30 = .ok (.ifCond .eq 14, 3) := by decide +kernel
theorem dX4_requireLimitAndDays_33 : decode cX4_requireLimitAndDays 33 = .ok (.iload_n 2, 1) := by decide +kernel
theorem dX4_requireLimitAndDays_34 : decode cX4_requireLimitAndDays 34 = .ok (.iload_n 1, 1) := by decide +kernel
theorem dX4_requireLimitAndDays_35 : decode cX4_requireLimitAndDays 35 = .ok (.sipush 999, 3) := by decide +kernel
theorem dX4_requireLimitAndDays_38 : decode cX4_requireLimitAndDays 38 = .ok (.invokestatic 133, 3) := by decide +kernel
theorem dX4_requireLimitAndDays_41 : decode cX4_requireLimitAndDays 41 = .ok (.ifCond .ne 14, 3) := by decide +kernel
theorem dX4_requireLimitAndDays_44 : decode cX4_requireLimitAndDays 44 = .ok (.new 47, 3) := by decide +kernel
theorem dX4_requireLimitAndDays_47 : decode cX4_requireLimitAndDays 47 = .ok (.dup, 1) := by decide +kernel
theorem dX4_requireLimitAndDays_48 : decode cX4_requireLimitAndDays 48 = .ok (.ldc_w 305, 3) := by decide +kernel
theorem dX4_requireLimitAndDays_51 : decode cX4_requireLimitAndDays 51 = .ok (.invokespecial 51, 3) := by decide +kernel
theorem dX4_requireLimitAndDays_54 : decode cX4_requireLimitAndDays 54 = .ok (.athrow, 1) := by decide +kernel
theorem dX4_requireLimitAndDays_55 : decode cX4_requireLimitAndDays 55 = .ok (.return_, 1) := by decide +kernel
theorem dX4_requireDealing_0 : decode cX4_requireDealing 0 = .ok (.iload_n 0, 1) := by decide +kernel
theorem dX4_requireDealing_1 : decode cX4_requireDealing 1 = .ok (.invokestatic 69, 3) := by decide +kernel
theorem dX4_requireDealing_4 : decode cX4_requireDealing 4 = .ok (.iload_n 2, 1) := by decide +kernel
theorem dX4_requireDealing_5 : decode cX4_requireDealing 5 = .ok (.iconst 0, 1) := by decide +kernel
theorem dX4_requireDealing_6 : decode cX4_requireDealing 6 = .ok (.bipush 9, 2) := by decide +kernel
theorem dX4_requireDealing_8 : decode cX4_requireDealing 8 = .ok (.invokestatic 133, 3) := by decide +kernel
theorem dX4_requireDealing_11 : decode cX4_requireDealing 11 = .ok (.ifCond .ne 14, 3) := by decide +kernel
theorem dX4_requireDealing_14 : decode cX4_requireDealing 14 = .ok (.new 47, 3) := by decide +kernel
theorem dX4_requireDealing_17 : decode cX4_requireDealing 17 = .ok (.dup, 1) := by decide +kernel
theorem dX4_requireDealing_18 : decode cX4_requireDealing 18 = .ok (.ldc_w 307, 3) := by decide +kernel
theorem dX4_requireDealing_21 : decode cX4_requireDealing 21 = .ok (.invokespecial 51, 3) := by decide +kernel
theorem dX4_requireDealing_24 : decode cX4_requireDealing 24 = .ok (.athrow, 1) := by decide +kernel
theorem dX4_requireDealing_25 : decode cX4_requireDealing 25 = .ok (.iload_n 1, 1) := by decide +kernel
theorem dX4_requireDealing_26 : decode cX4_requireDealing 26 = .ok (.iconst 1, 1) := by decide +kernel
theorem dX4_requireDealing_27 : decode cX4_requireDealing 27 = .ok (.sipush 9999, 3) := by decide +kernel
theorem dX4_requireDealing_30 : decode cX4_requireDealing 30 = .ok (.invokestatic 133, 3) := by decide +kernel
theorem dX4_requireDealing_33 : decode cX4_requireDealing 33 = .ok (.ifCond .ne 14, 3) := by decide +kernel
theorem dX4_requireDealing_36 : decode cX4_requireDealing 36 = .ok (.new 47, 3) := by decide +kernel
theorem dX4_requireDealing_39 : decode cX4_requireDealing 39 = .ok (.dup, 1) := by decide +kernel
theorem dX4_requireDealing_40 : decode cX4_requireDealing 40 = .ok (.ldc_w 309, 3) := by decide +kernel
theorem dX4_requireDealing_43 : decode cX4_requireDealing 43 = .ok (.invokespecial 51, 3) := by decide +kernel
theorem dX4_requireDealing_46 : decode cX4_requireDealing 46 = .ok (.athrow, 1) := by decide +kernel
theorem dX4_requireDealing_47 : decode cX4_requireDealing 47 = .ok (.return_, 1) := by decide +kernel
theorem dX4_requireDayCount_0 : decode cX4_requireDayCount 0 = .ok (.iload_n 0, 1) := by decide +kernel
theorem dX4_requireDayCount_1 : decode cX4_requireDayCount 1 = .ok (.iconst 1, 1) := by decide +kernel
theorem dX4_requireDayCount_2 : decode cX4_requireDayCount 2 = .ok (.bipush 99, 2) := by decide +kernel
theorem dX4_requireDayCount_4 : decode cX4_requireDayCount 4 = .ok (.invokestatic 133, 3) := by decide +kernel
theorem dX4_requireDayCount_7 : decode cX4_requireDayCount 7 = .ok (.ifCond .ne 14, 3) := by decide +kernel
theorem dX4_requireDayCount_10 : decode cX4_requireDayCount 10 = .ok (.new 47, 3) := by decide +kernel
theorem dX4_requireDayCount_13 : decode cX4_requireDayCount 13 = .ok (.dup, 1) := by decide +kernel
theorem dX4_requireDayCount_14 : decode cX4_requireDayCount 14 = .ok (.ldc_w 311, 3) := by decide +kernel
theorem dX4_requireDayCount_17 : decode cX4_requireDayCount 17 = .ok (.invokespecial 51, 3) := by decide +kernel
theorem dX4_requireDayCount_20 : decode cX4_requireDayCount 20 = .ok (.athrow, 1) := by decide +kernel
theorem dX4_requireDayCount_21 : decode cX4_requireDayCount 21 = .ok (.return_, 1) := by decide +kernel
theorem dX4_requireTwo_0 : decode cX4_requireTwo 0 = .ok (.iload_n 0, 1) := by decide +kernel
theorem dX4_requireTwo_1 : decode cX4_requireTwo 1 = .ok (.iload_n 1, 1) := by decide +kernel
theorem dX4_requireTwo_2 : decode cX4_requireTwo 2 = .ok (.if_icmp .ne 14, 3) := by decide +kernel
theorem dX4_requireTwo_5 : decode cX4_requireTwo 5 = .ok (.new 116, 3) := by decide +kernel
theorem dX4_requireTwo_8 : decode cX4_requireTwo 8 = .ok (.dup, 1) := by decide +kernel
theorem dX4_requireTwo_9 : decode cX4_requireTwo 9 = .ok (.ldc_w 313, 3) := by decide +kernel
theorem dX4_requireTwo_12 : decode cX4_requireTwo 12 = .ok (.invokespecial 120, 3) := by decide +kernel
theorem dX4_requireTwo_15 : decode cX4_requireTwo 15 = .ok (.athrow, 1) := by decide +kernel
theorem dX4_requireTwo_16 : decode cX4_requireTwo 16 = .ok (.return_, 1) := by decide +kernel
theorem dX4_requireRoomForPower_0 : decode cX4_requireRoomForPower 0 = .ok (.aload_n 0, 1) := by decide +kernel
theorem dX4_requireRoomForPower_1 : decode cX4_requireRoomForPower 1 = .ok (.getfield 10, 3) := by decide +kernel
theorem dX4_requireRoomForPower_4 : decode cX4_requireRoomForPower 4 = .ok (.invokeinterface 86 1, 5) := by decide +kernel
theorem dX4_requireRoomForPower_9 : decode cX4_requireRoomForPower 9 = .ok (.bipush 20, 2) := by decide +kernel
theorem dX4_requireRoomForPower_11 : decode cX4_requireRoomForPower 11 = .ok (.if_icmp .lt 14, 3) := by decide +kernel
theorem dX4_requireRoomForPower_14 : decode cX4_requireRoomForPower 14 = .ok (.new 36, 3) := by decide +kernel
theorem dX4_requireRoomForPower_17 : decode cX4_requireRoomForPower 17 = .ok (.dup, 1) := by decide +kernel
theorem dX4_requireRoomForPower_18 : decode cX4_requireRoomForPower 18 = .ok (.ldc_w 315, 3) := by decide +kernel
theorem dX4_requireRoomForPower_21 : decode cX4_requireRoomForPower 21 = .ok (.invokespecial 40, 3) := by decide +kernel
theorem dX4_requireRoomForPower_24 : decode cX4_requireRoomForPower 24 = .ok (.athrow, 1) := by decide +kernel
theorem dX4_requireRoomForPower_25 : decode cX4_requireRoomForPower 25 = .ok (.return_, 1) := by decide +kernel
theorem dX4_requireRoomForDeed_0 : decode cX4_requireRoomForDeed 0 = .ok (.aload_n 0, 1) := by decide +kernel
theorem dX4_requireRoomForDeed_1 : decode cX4_requireRoomForDeed 1 = .ok (.getfield 16, 3) := by decide +kernel
theorem dX4_requireRoomForDeed_4 : decode cX4_requireRoomForDeed 4 = .ok (.invokeinterface 86 1, 5) := by decide +kernel
theorem dX4_requireRoomForDeed_9 : decode cX4_requireRoomForDeed 9 = .ok (.bipush 24, 2) := by decide +kernel
theorem dX4_requireRoomForDeed_11 : decode cX4_requireRoomForDeed 11 = .ok (.if_icmp .lt 14, 3) := by decide +kernel
theorem dX4_requireRoomForDeed_14 : decode cX4_requireRoomForDeed 14 = .ok (.new 36, 3) := by decide +kernel
theorem dX4_requireRoomForDeed_17 : decode cX4_requireRoomForDeed 17 = .ok (.dup, 1) := by decide +kernel
theorem dX4_requireRoomForDeed_18 : decode cX4_requireRoomForDeed 18 = .ok (.ldc_w 317, 3) := by decide +kernel
theorem dX4_requireRoomForDeed_21 : decode cX4_requireRoomForDeed 21 = .ok (.invokespecial 40, 3) := by decide +kernel
theorem dX4_requireRoomForDeed_24 : decode cX4_requireRoomForDeed 24 = .ok (.athrow, 1) := by decide +kernel
theorem dX4_requireRoomForDeed_25 : decode cX4_requireRoomForDeed 25 = .ok (.return_, 1) := by decide +kernel
theorem dX4_requireWaiting_0 : decode cX4_requireWaiting 0 = .ok (.aload_n 0, 1) := by decide +kernel
theorem dX4_requireWaiting_1 : decode cX4_requireWaiting 1 = .ok (.getfield 215, 3) := by decide +kernel
theorem dX4_requireWaiting_4 : decode cX4_requireWaiting 4 = .ok (.bipush 119, 2) := by decide +kernel
theorem dX4_requireWaiting_6 : decode cX4_requireWaiting 6 = .ok (.if_icmp .eq 14, 3) := by decide +kernel
theorem dX4_requireWaiting_9 : decode cX4_requireWaiting 9 = .ok (.new 36, 3) := by decide +kernel
theorem dX4_requireWaiting_12 : decode cX4_requireWaiting 12 = .ok (.dup, 1) := by decide +kernel
theorem dX4_requireWaiting_13 : decode cX4_requireWaiting 13 = .ok (.ldc_w 319, 3) := by decide +kernel
theorem dX4_requireWaiting_16 : decode cX4_requireWaiting 16 = .ok (.invokespecial 40, 3) := by decide +kernel
theorem dX4_requireWaiting_19 : decode cX4_requireWaiting 19 = .ok (.athrow, 1) := by decide +kernel
theorem dX4_requireWaiting_20 : decode cX4_requireWaiting 20 = .ok (.return_, 1) := by decide +kernel
theorem dX4_requireLackingPower_0 : decode cX4_requireLackingPower 0 = .ok (.aload_n 0, 1) := by decide +kernel
theorem dX4_requireLackingPower_1 : decode cX4_requireLackingPower 1 = .ok (.getfield 255, 3) := by decide +kernel
theorem dX4_requireLackingPower_4 : decode cX4_requireLackingPower 4 = .ok (.bipush 45, 2) := by decide +kernel
theorem dX4_requireLackingPower_6 : decode cX4_requireLackingPower 6 = .ok (.if_icmp .eq 12, 3) := by decide +kernel
theorem dX4_requireLackingPower_9 : decode cX4_requireLackingPower 9 = .ok (.aload_n 0, 1) := by decide +kernel
theorem dX4_requireLackingPower_10 : decode cX4_requireLackingPower 10 = .ok (.getfield 255, 3) := by decide +kernel
theorem dX4_requireLackingPower_13 : decode cX4_requireLackingPower 13 = .ok (.bipush 107, 2) := by decide +kernel
theorem dX4_requireLackingPower_15 : decode cX4_requireLackingPower 15 = .ok (.if_icmp .ne 14, 3) := by decide +kernel
theorem dX4_requireLackingPower_18 : decode cX4_requireLackingPower 18 = .ok (.new 159, 3) := by decide +kernel
theorem dX4_requireLackingPower_21 : decode cX4_requireLackingPower 21 = .ok (.dup, 1) := by decide +kernel
theorem dX4_requireLackingPower_22 : decode cX4_requireLackingPower 22 = .ok (.ldc_w 321, 3) := by decide +kernel
theorem dX4_requireLackingPower_25 : decode cX4_requireLackingPower 25 = .ok (.invokespecial 163, 3) := by decide +kernel
theorem dX4_requireLackingPower_28 : decode cX4_requireLackingPower 28 = .ok (.athrow, 1) := by decide +kernel
theorem dX4_requireLackingPower_29 : decode cX4_requireLackingPower 29 = .ok (.return_, 1) := by decide +kernel
theorem dX4_tell_0 : decode cX4_tell 0 = .ok (.new 323, 3) := by decide +kernel
theorem dX4_tell_3 : decode cX4_tell 3 = .ok (.dup, 1) := by decide +kernel
theorem dX4_tell_4 : decode cX4_tell 4 = .ok (.iload_n 1, 1) := by decide +kernel
theorem dX4_tell_5 : decode cX4_tell 5 = .ok (.iload_n 2, 1) := by decide +kernel
theorem dX4_tell_6 : decode cX4_tell 6 = .ok (.iload_n 3, 1) := by decide +kernel
theorem dX4_tell_7 : decode cX4_tell 7 = .ok (.invokespecial 325, 3) := by decide +kernel
theorem dX4_tell_10 : decode cX4_tell 10 = .ok (.astore 4, 2) := by decide +kernel
theorem dX4_tell_12 : decode cX4_tell 12 = .ok (.aload_n 0, 1) := by decide +kernel
theorem dX4_tell_13 : decode cX4_tell 13 = .ok (.getfield 19, 3) := by decide +kernel
theorem dX4_tell_16 : decode cX4_tell 16 = .ok (.invokeinterface 86 1, 5) := by decide +kernel
theorem dX4_tell_21 : decode cX4_tell 21 = .ok (.sipush 512, 3) := by decide +kernel
theorem dX4_tell_24 : decode cX4_tell 24 = .ok (.if_icmp .ge 15, 3) := by decide +kernel
theorem dX4_tell_27 : decode cX4_tell 27 = .ok (.aload_n 0, 1) := by decide +kernel
theorem dX4_tell_28 : decode cX4_tell 28 = .ok (.getfield 19, 3) := by decide +kernel
theorem dX4_tell_31 : decode cX4_tell 31 = .ok (.aload 4, 2) := by decide +kernel
theorem dX4_tell_33 : decode cX4_tell 33 = .ok (.invokeinterface 327 2, 5) := by decide +kernel
theorem dX4_tell_38 : decode cX4_tell 38 = .ok (.pop, 1) := by decide +kernel
theorem dX4_tell_39 : decode cX4_tell 39 = .ok (.aload_n 0, 1) := by decide +kernel
theorem dX4_tell_40 : decode cX4_tell 40 = .ok (.getfield 25, 3) := by decide +kernel
theorem dX4_tell_43 : decode cX4_tell 43 = .ok (.aload 4, 2) := by decide +kernel
theorem dX4_tell_45 : decode cX4_tell 45 = .ok (.invokevirtual 331, 3) := by decide +kernel
theorem dX4_tell_48 : decode cX4_tell 48 = .ok (.return_, 1) := by decide +kernel
theorem dX4_bitOfHand_0 : decode cX4_bitOfHand 0 = .ok (.iload_n 0, 1) := by decide +kernel
theorem dX4_bitOfHand_1 : decode cX4_bitOfHand 1 = .ok (.bipush 115, 2) := by decide +kernel
theorem dX4_bitOfHand_3 : decode cX4_bitOfHand 3 = .ok (.if_icmp .ne 5, 3) := by decide +kernel
theorem dX4_bitOfHand_6 : decode cX4_bitOfHand 6 = .ok (.iconst 1, 1) := by decide +kernel
theorem dX4_bitOfHand_7 : decode cX4_bitOfHand 7 = .ok (.ireturn, 1) := by decide +kernel
theorem dX4_bitOfHand_8 : decode cX4_bitOfHand 8 = .ok (.iload_n 0, 1) := by decide +kernel
theorem dX4_bitOfHand_9 : decode cX4_bitOfHand 9 = .ok (.bipush 97, 2) := by decide +kernel
theorem dX4_bitOfHand_11 : decode cX4_bitOfHand 11 = .ok (.if_icmp .ne 5, 3) := by decide +kernel
theorem dX4_bitOfHand_14 : decode cX4_bitOfHand 14 = .ok (.iconst 2, 1) := by decide +kernel
theorem dX4_bitOfHand_15 : decode cX4_bitOfHand 15 = .ok (.ireturn, 1) := by decide +kernel
theorem dX4_bitOfHand_16 : decode cX4_bitOfHand 16 = .ok (.iload_n 0, 1) := by decide +kernel
theorem dX4_bitOfHand_17 : decode cX4_bitOfHand 17 = .ok (.bipush 98, 2) := by decide +kernel
theorem dX4_bitOfHand_19 : decode cX4_bitOfHand 19 = .ok (.if_icmp .ne 7, 3) := by decide +kernel
theorem dX4_bitOfHand_22 : decode cX4_bitOfHand 22 = .ok (.iconst 4, 1) := by decide +kernel
theorem dX4_bitOfHand_23 : decode cX4_bitOfHand 23 = .ok (.goto 4, 3) := by decide +kernel
theorem dX4_bitOfHand_26 : decode cX4_bitOfHand 26 = .ok (.iconst 0, 1) := by decide +kernel
theorem dX4_bitOfHand_27 : decode cX4_bitOfHand 27 = .ok (.ireturn, 1) := by decide +kernel
theorem dX4_keepPower_0 : decode cX4_keepPower 0 = .ok (.aload_n 0, 1) := by decide +kernel
theorem dX4_keepPower_1 : decode cX4_keepPower 1 = .ok (.getfield 10, 3) := by decide +kernel
theorem dX4_keepPower_4 : decode cX4_keepPower 4 = .ok (.aload_n 1, 1) := by decide +kernel
theorem dX4_keepPower_5 : decode cX4_keepPower 5 = .ok (.invokeinterface 327 2, 5) := by decide +kernel
theorem dX4_keepPower_10 : decode cX4_keepPower 10 = .ok (.pop, 1) := by decide +kernel
theorem dX4_keepPower_11 : decode cX4_keepPower 11 = .ok (.aload_n 0, 1) := by decide +kernel
theorem dX4_keepPower_12 : decode cX4_keepPower 12 = .ok (.iconst 0, 1) := by decide +kernel
theorem dX4_keepPower_13 : decode cX4_keepPower 13 = .ok (.aload_n 1, 1) := by decide +kernel
theorem dX4_keepPower_14 : decode cX4_keepPower 14 = .ok (.getfield 146, 3) := by decide +kernel
theorem dX4_keepPower_17 : decode cX4_keepPower 17 = .ok (.iload_n 2, 1) := by decide +kernel
theorem dX4_keepPower_18 : decode cX4_keepPower 18 = .ok (.invokevirtual 56, 3) := by decide +kernel
theorem dX4_keepPower_21 : decode cX4_keepPower 21 = .ok (.aload_n 1, 1) := by decide +kernel
theorem dX4_keepPower_22 : decode cX4_keepPower 22 = .ok (.getfield 146, 3) := by decide +kernel
theorem dX4_keepPower_25 : decode cX4_keepPower 25 = .ok (.ireturn, 1) := by decide +kernel
theorem dX4_countPowersFrom_0 : decode cX4_countPowersFrom 0 = .ok (.iconst 0, 1) := by decide +kernel
theorem dX4_countPowersFrom_1 : decode cX4_countPowersFrom 1 = .ok (.istore_n 2, 1) := by decide +kernel
theorem dX4_countPowersFrom_2 : decode cX4_countPowersFrom 2 = .ok (.iconst 0, 1) := by decide +kernel
theorem dX4_countPowersFrom_3 : decode cX4_countPowersFrom 3 = .ok (.istore_n 3, 1) := by decide +kernel
theorem dX4_countPowersFrom_4 : decode cX4_countPowersFrom 4 = .ok (.iload_n 3, 1) := by decide +kernel
theorem dX4_countPowersFrom_5 : decode cX4_countPowersFrom 5 = .ok (.aload_n 0, 1) := by decide +kernel
theorem dX4_countPowersFrom_6 : decode cX4_countPowersFrom 6 = .ok (.getfield 10, 3) := by decide +kernel
theorem dX4_countPowersFrom_9 : decode cX4_countPowersFrom 9 = .ok (.invokeinterface 86 1, 5) := by decide +kernel
theorem dX4_countPowersFrom_14 : decode cX4_countPowersFrom 14 = .ok (.if_icmp .ge 32, 3) := by decide +kernel
theorem dX4_countPowersFrom_17 : decode cX4_countPowersFrom 17 = .ok (.aload_n 0, 1) := by decide +kernel
theorem dX4_countPowersFrom_18 : decode cX4_countPowersFrom 18 = .ok (.getfield 10, 3) := by decide +kernel
theorem dX4_countPowersFrom_21 : decode cX4_countPowersFrom 21 = .ok (.iload_n 3, 1) := by decide +kernel
theorem dX4_countPowersFrom_22 : decode cX4_countPowersFrom 22 = .ok (.invokeinterface 277 2, 5) := by decide +kernel
theorem dX4_countPowersFrom_27 : decode cX4_countPowersFrom 27 = .ok (.checkcast 84, 3) := by decide +kernel
theorem dX4_countPowersFrom_30 : decode cX4_countPowersFrom 30 = .ok (.aload_n 1, 1) := by decide +kernel
theorem dX4_countPowersFrom_31 : decode cX4_countPowersFrom 31 = .ok (.invokevirtual 338, 3) := by decide +kernel
theorem dX4_countPowersFrom_34 : decode cX4_countPowersFrom 34 = .ok (.ifCond .eq 6, 3) := by decide +kernel
theorem dX4_countPowersFrom_37 : decode cX4_countPowersFrom 37 = .ok (.iinc 2 1, 3) := by decide +kernel
theorem dX4_countPowersFrom_40 : decode cX4_countPowersFrom 40 = .ok (.iinc 3 1, 3) := by decide +kernel
theorem dX4_countPowersFrom_43 : decode cX4_countPowersFrom 43 = .ok (.goto (-39), 3) := by decide +kernel
theorem dX4_countPowersFrom_46 : decode cX4_countPowersFrom 46 = .ok (.iload_n 2, 1) := by decide +kernel
theorem dX4_countPowersFrom_47 : decode cX4_countPowersFrom 47 = .ok (.ireturn, 1) := by decide +kernel
theorem dX4_substituteOrNone_0 : decode cX4_substituteOrNone 0 = .ok (.aload_n 0, 1) := by decide +kernel
theorem dX4_substituteOrNone_1 : decode cX4_substituteOrNone 1 = .ok (.getfield 25, 3) := by decide +kernel
theorem dX4_substituteOrNone_4 : decode cX4_substituteOrNone 4 = .ok (.iload_n 1, 1) := by decide +kernel
theorem dX4_substituteOrNone_5 : decode cX4_substituteOrNone 5 = .ok (.invokevirtual 60, 3) := by decide +kernel
theorem dX4_substituteOrNone_8 : decode cX4_substituteOrNone 8 = .ok (.istore_n 2, 1) := by decide +kernel
theorem dX4_substituteOrNone_9 : decode cX4_substituteOrNone 9 = .ok (.iload_n 2, 1) := by decide +kernel
theorem dX4_substituteOrNone_10 : decode cX4_substituteOrNone 10 = .ok (.bipush (-2), 2) := by decide +kernel
theorem dX4_substituteOrNone_12 : decode cX4_substituteOrNone 12 = .ok (.if_icmp .ne 7, 3) := by decide +kernel
theorem dX4_substituteOrNone_15 : decode cX4_substituteOrNone 15 = .ok (.iconst (-1), 1) := by decide +kernel
theorem dX4_substituteOrNone_16 : decode cX4_substituteOrNone 16 = .ok (.goto 4, 3) := by decide +kernel
theorem dX4_substituteOrNone_19 : decode cX4_substituteOrNone 19 = .ok (.iload_n 2, 1) := by decide +kernel
theorem dX4_substituteOrNone_20 : decode cX4_substituteOrNone 20 = .ok (.ireturn, 1) := by decide +kernel
theorem dX4_handsOf_0 : decode cX4_handsOf 0 = .ok (.iconst 0, 1) := by decide +kernel
theorem dX4_handsOf_1 : decode cX4_handsOf 1 = .ok (.istore 5, 2) := by decide +kernel
theorem dX4_handsOf_3 : decode cX4_handsOf 3 = .ok (.iconst 0, 1) := by decide +kernel
theorem dX4_handsOf_4 : decode cX4_handsOf 4 = .ok (.istore 6, 2) := by decide +kernel
theorem dX4_handsOf_6 : decode cX4_handsOf 6 = .ok (.iload 6, 2) := by decide +kernel
theorem dX4_handsOf_8 : decode cX4_handsOf 8 = .ok (.aload_n 0, 1) := by decide +kernel
theorem dX4_handsOf_9 : decode cX4_handsOf 9 = .ok (.getfield 10, 3) := by decide +kernel
theorem dX4_handsOf_12 : decode cX4_handsOf 12 = .ok (.invokeinterface 86 1, 5) := by decide +kernel
theorem dX4_handsOf_17 : decode cX4_handsOf 17 = .ok (.if_icmp .ge 71, 3) := by decide +kernel
theorem dX4_handsOf_20 : decode cX4_handsOf 20 = .ok (.aload_n 0, 1) := by decide +kernel
theorem dX4_handsOf_21 : decode cX4_handsOf 21 = .ok (.getfield 10, 3) := by decide +kernel
theorem dX4_handsOf_24 : decode cX4_handsOf 24 = .ok (.iload 6, 2) := by decide +kernel
theorem dX4_handsOf_26 : decode cX4_handsOf 26 = .ok (.invokeinterface 277 2, 5) := by decide +kernel
theorem dX4_handsOf_31 : decode cX4_handsOf 31 = .ok (.checkcast 84, 3) := by decide +kernel
theorem dX4_handsOf_34 : decode cX4_handsOf 34 = .ok (.astore 7, 2) := by decide +kernel
theorem dX4_handsOf_36 : decode cX4_handsOf 36 = .ok (.aload 7, 2) := by decide +kernel
theorem dX4_handsOf_38 : decode cX4_handsOf 38 = .ok (.getfield 127, 3) := by decide +kernel
theorem dX4_handsOf_41 : decode cX4_handsOf 41 = .ok (.iload_n 2, 1) := by decide +kernel
theorem dX4_handsOf_42 : decode cX4_handsOf 42 = .ok (.if_icmp .ne 40, 3) := by decide +kernel
theorem dX4_handsOf_45 : decode cX4_handsOf 45 = .ok (.aload 4, 2) := by decide +kernel
theorem dX4_handsOf_47 : decode cX4_handsOf 47 = .ok (.iload_n 1, 1) := by decide +kernel
theorem dX4_handsOf_48 : decode cX4_handsOf 48 = .ok (.aload 7, 2) := by decide +kernel
theorem dX4_handsOf_50 : decode cX4_handsOf 50 = .ok (.getfield 103, 3) := by decide +kernel
theorem dX4_handsOf_53 : decode cX4_handsOf 53 = .ok (.invokevirtual 65, 3) := by decide +kernel
theorem dX4_handsOf_56 : decode cX4_handsOf 56 = .ok (.ifCond .eq 26, 3) := by decide +kernel
theorem dX4_handsOf_59 : decode cX4_handsOf 59 = .ok (.aload 4, 2) := by decide +kernel
theorem dX4_handsOf_61 : decode cX4_handsOf 61 = .ok (.aload 7, 2) := by decide +kernel
theorem dX4_handsOf_63 : decode cX4_handsOf 63 = .ok (.iload_n 3, 1) := by decide +kernel
theorem dX4_handsOf_64 : decode cX4_handsOf 64 = .ok (.invokevirtual 152, 3) := by decide +kernel
theorem dX4_handsOf_67 : decode cX4_handsOf 67 = .ok (.bipush 45, 2) := by decide +kernel
theorem dX4_handsOf_69 : decode cX4_handsOf 69 = .ok (.if_icmp .ne 13, 3) := by decide +kernel
theorem dX4_handsOf_72 : decode cX4_handsOf 72 = .ok (.iload 5, 2) := by decide +kernel
theorem dX4_handsOf_74 : decode cX4_handsOf 74 = .ok (.aload 7, 2) := by decide +kernel
theorem dX4_handsOf_76 : decode cX4_handsOf 76 = .ok (.getfield 130, 3) := by decide +kernel
theorem dX4_handsOf_79 : decode cX4_handsOf 79 = .ok (.ior, 1) := by decide +kernel
theorem dX4_handsOf_80 : decode cX4_handsOf 80 = .ok (.istore 5, 2) := by decide +kernel
theorem dX4_handsOf_82 : decode cX4_handsOf 82 = .ok (.iinc 6 1, 3) := by decide +kernel
theorem dX4_handsOf_85 : decode cX4_handsOf 85 = .ok (.goto (-79), 3) := by decide +kernel
theorem dX4_handsOf_88 : decode cX4_handsOf 88 = .ok (.iload 5, 2) := by decide +kernel
theorem dX4_handsOf_90 : decode cX4_handsOf 90 = .ok (.ireturn, 1) := by decide +kernel
theorem dX4_signsAlone_0 : decode cX4_signsAlone 0 = .ok (.aload_n 0, 1) := by decide +kernel
theorem dX4_signsAlone_1 : decode cX4_signsAlone 1 = .ok (.iload_n 1, 1) := by decide +kernel
theorem dX4_signsAlone_2 : decode cX4_signsAlone 2 = .ok (.iload_n 2, 1) := by decide +kernel
theorem dX4_signsAlone_3 : decode cX4_signsAlone 3 = .ok (.iload_n 3, 1) := by decide +kernel
theorem dX4_signsAlone_4 : decode cX4_signsAlone 4 = .ok (.aload 4, 2) := by decide +kernel
theorem dX4_signsAlone_6 : decode cX4_signsAlone 6 = .ok (.invokevirtual 179, 3) := by decide +kernel
theorem dX4_signsAlone_9 : decode cX4_signsAlone 9 = .ok (.iconst 0, 1) := by decide +kernel
theorem dX4_signsAlone_10 : decode cX4_signsAlone 10 = .ok (.invokestatic 341, 3) := by decide +kernel
theorem dX4_signsAlone_13 : decode cX4_signsAlone 13 = .ok (.ireturn, 1) := by decide +kernel
theorem dX4_suffice_0 : decode cX4_suffice 0 = .ok (.iload_n 0, 1) := by decide +kernel
theorem dX4_suffice_1 : decode cX4_suffice 1 = .ok (.iload_n 1, 1) := by decide +kernel
theorem dX4_suffice_2 : decode cX4_suffice 2 = .ok (.ior, 1) := by decide +kernel
theorem dX4_suffice_3 : decode cX4_suffice 3 = .ok (.iconst 1, 1) := by decide +kernel
theorem dX4_suffice_4 : decode cX4_suffice 4 = .ok (.iand, 1) := by decide +kernel
theorem dX4_suffice_5 : decode cX4_suffice 5 = .ok (.ifCond .ne 27, 3) := by decide +kernel
theorem dX4_suffice_8 : decode cX4_suffice 8 = .ok (.iload_n 0, 1) := by decide +kernel
theorem dX4_suffice_9 : decode cX4_suffice 9 = .ok (.iconst 2, 1) := by decide +kernel
theorem dX4_suffice_10 : decode cX4_suffice 10 = .ok (.iand, 1) := by decide +kernel
theorem dX4_suffice_11 : decode cX4_suffice 11 = .ok (.ifCond .eq 9, 3) := by decide +kernel
theorem dX4_suffice_14 : decode cX4_suffice 14 = .ok (.iload_n 1, 1) := by decide +kernel
theorem dX4_suffice_15 : decode cX4_suffice 15 = .ok (.iconst 4, 1) := by decide +kernel
theorem dX4_suffice_16 : decode cX4_suffice 16 = .ok (.iand, 1) := by decide +kernel
theorem dX4_suffice_17 : decode cX4_suffice 17 = .ok (.ifCond .ne 15, 3) := by decide +kernel
theorem dX4_suffice_20 : decode cX4_suffice 20 = .ok (.iload_n 0, 1) := by decide +kernel
theorem dX4_suffice_21 : decode cX4_suffice 21 = .ok (.iconst 4, 1) := by decide +kernel
theorem dX4_suffice_22 : decode cX4_suffice 22 = .ok (.iand, 1) := by decide +kernel
theorem dX4_suffice_23 : decode cX4_suffice 23 = .ok (.ifCond .eq 13, 3) := by decide +kernel
theorem dX4_suffice_26 : decode cX4_suffice 26 = .ok (.iload_n 1, 1) := by decide +kernel
theorem dX4_suffice_27 : decode cX4_suffice 27 = .ok (.iconst 2, 1) := by decide +kernel
theorem dX4_suffice_28 : decode cX4_suffice 28 = .ok (.iand, 1) := by decide +kernel
theorem dX4_suffice_29 : decode cX4_suffice 29 = .ok (.ifCond .eq 7, 3) := by decide +kernel
theorem dX4_suffice_32 : decode cX4_suffice 32 = .ok (.iconst 1, 1) := by decide +kernel
theorem dX4_suffice_33 : decode cX4_suffice 33 = .ok (.goto 4, 3) := by decide +kernel
theorem dX4_suffice_36 : decode cX4_suffice 36 = .ok (.iconst 0, 1) := by decide +kernel
theorem dX4_suffice_37 : decode cX4_suffice 37 = .ok (.ireturn, 1) := by decide +kernel
theorem dX4_keepDeed_0 : decode cX4_keepDeed 0 = .ok (.aload_n 1, 1) := by decide +kernel
theorem dX4_keepDeed_1 : decode cX4_keepDeed 1 = .ok (.aload_n 0, 1) := by decide +kernel
theorem dX4_keepDeed_2 : decode cX4_keepDeed 2 = .ok (.getfield 25, 3) := by decide +kernel
theorem dX4_keepDeed_5 : decode cX4_keepDeed 5 = .ok (.getfield 222, 3) := by decide +kernel
theorem dX4_keepDeed_8 : decode cX4_keepDeed 8 = .ok (.putfield 237, 3) := by decide +kernel
theorem dX4_keepDeed_11 : decode cX4_keepDeed 11 = .ok (.aload_n 1, 1) := by decide +kernel
theorem dX4_keepDeed_12 : decode cX4_keepDeed 12 = .ok (.aload_n 0, 1) := by decide +kernel
theorem dX4_keepDeed_13 : decode cX4_keepDeed 13 = .ok (.getfield 19, 3) := by decide +kernel
theorem dX4_keepDeed_16 : decode cX4_keepDeed 16 = .ok (.invokeinterface 86 1, 5) := by decide +kernel
theorem dX4_keepDeed_21 : decode cX4_keepDeed 21 = .ok (.putfield 234, 3) := by decide +kernel
theorem dX4_keepDeed_24 : decode cX4_keepDeed 24 = .ok (.aload_n 1, 1) := by decide +kernel
theorem dX4_keepDeed_25 : decode cX4_keepDeed 25 = .ok (.aload_n 0, 1) := by decide +kernel
theorem dX4_keepDeed_26 : decode cX4_keepDeed 26 = .ok (.aload_n 1, 1) := by decide +kernel
theorem dX4_keepDeed_27 : decode cX4_keepDeed 27 = .ok (.aload_n 0, 1) := by decide +kernel
theorem dX4_keepDeed_28 : decode cX4_keepDeed 28 = .ok (.getfield 25, 3) := by decide +kernel
theorem dX4_keepDeed_31 : decode cX4_keepDeed 31 = .ok (.invokevirtual 243, 3) := by decide +kernel
theorem dX4_keepDeed_34 : decode cX4_keepDeed 34 = .ok (.putfield 210, 3) := by decide +kernel
theorem dX4_keepDeed_37 : decode cX4_keepDeed 37 = .ok (.aload_n 0, 1) := by decide +kernel
theorem dX4_keepDeed_38 : decode cX4_keepDeed 38 = .ok (.aload_n 1, 1) := by decide +kernel
theorem dX4_keepDeed_39 : decode cX4_keepDeed 39 = .ok (.aload_n 1, 1) := by decide +kernel
theorem dX4_keepDeed_40 : decode cX4_keepDeed 40 = .ok (.getfield 210, 3) := by decide +kernel
theorem dX4_keepDeed_43 : decode cX4_keepDeed 43 = .ok (.aload_n 0, 1) := by decide +kernel
theorem dX4_keepDeed_44 : decode cX4_keepDeed 44 = .ok (.getfield 25, 3) := by decide +kernel
theorem dX4_keepDeed_47 : decode cX4_keepDeed 47 = .ok (.invokevirtual 251, 3) := by decide +kernel
theorem dX4_keepDeed_50 : decode cX4_keepDeed 50 = .ok (.ifCond .eq 12, 3) := by decide +kernel
theorem dX4_keepDeed_53 : decode cX4_keepDeed 53 = .ok (.aload_n 1, 1) := by decide +kernel
theorem dX4_keepDeed_54 : decode cX4_keepDeed 54 = .ok (.bipush 115, 2) := by decide +kernel
theorem dX4_keepDeed_56 : decode cX4_keepDeed 56 = .ok (.putfield 215, 3) := by decide +kernel
theorem dX4_keepDeed_59 : decode cX4_keepDeed 59 = .ok (.goto 14, 3) := by decide +kernel
theorem dX4_keepDeed_62 : decode cX4_keepDeed 62 = .ok (.aload_n 1, 1) := by decide +kernel
theorem dX4_keepDeed_63 : decode cX4_keepDeed 63 = .ok (.bipush 119, 2) := by decide +kernel
theorem dX4_keepDeed_65 : decode cX4_keepDeed 65 = .ok (.putfield 215, 3) := by decide +kernel
theorem dX4_keepDeed_68 : decode cX4_keepDeed 68 = .ok (.aload_n 0, 1) := by decide +kernel
theorem dX4_keepDeed_69 : decode cX4_keepDeed 69 = .ok (.aload_n 1, 1) := by decide +kernel
theorem dX4_keepDeed_70 : decode cX4_keepDeed 70 = .ok (.invokevirtual 344, 3) := by decide +kernel
theorem dX4_keepDeed_73 : decode cX4_keepDeed 73 = .ok (.aload_n 0, 1) := by decide +kernel
theorem dX4_keepDeed_74 : decode cX4_keepDeed 74 = .ok (.getfield 16, 3) := by decide +kernel
theorem dX4_keepDeed_77 : decode cX4_keepDeed 77 = .ok (.aload_n 1, 1) := by decide +kernel
theorem dX4_keepDeed_78 : decode cX4_keepDeed 78 = .ok (.invokeinterface 327 2, 5) := by decide +kernel
theorem dX4_keepDeed_83 : decode cX4_keepDeed 83 = .ok (.pop, 1) := by decide +kernel
theorem dX4_keepDeed_84 : decode cX4_keepDeed 84 = .ok (.aload_n 1, 1) := by decide +kernel
theorem dX4_keepDeed_85 : decode cX4_keepDeed 85 = .ok (.getfield 347, 3) := by decide +kernel
theorem dX4_keepDeed_88 : decode cX4_keepDeed 88 = .ok (.ireturn, 1) := by decide +kernel
theorem dX4_addUp_0 : decode cX4_addUp 0 = .ok (.aload_n 1, 1) := by decide +kernel
theorem dX4_addUp_1 : decode cX4_addUp 1 = .ok (.getfield 281, 3) := by decide +kernel
theorem dX4_addUp_4 : decode cX4_addUp 4 = .ok (.istore_n 3, 1) := by decide +kernel
theorem dX4_addUp_5 : decode cX4_addUp 5 = .ok (.iconst 0, 1) := by decide +kernel
theorem dX4_addUp_6 : decode cX4_addUp 6 = .ok (.istore 4, 2) := by decide +kernel
theorem dX4_addUp_8 : decode cX4_addUp 8 = .ok (.iload 4, 2) := by decide +kernel
theorem dX4_addUp_10 : decode cX4_addUp 10 = .ok (.aload_n 1, 1) := by decide +kernel
theorem dX4_addUp_11 : decode cX4_addUp 11 = .ok (.getfield 347, 3) := by decide +kernel
theorem dX4_addUp_14 : decode cX4_addUp 14 = .ok (.if_icmp .ge 97, 3) := by decide +kernel
theorem dX4_addUp_17 : decode cX4_addUp 17 = .ok (.iload 4, 2) := by decide +kernel
theorem dX4_addUp_19 : decode cX4_addUp 19 = .ok (.aload_n 0, 1) := by decide +kernel
theorem dX4_addUp_20 : decode cX4_addUp 20 = .ok (.getfield 16, 3) := by decide +kernel
theorem dX4_addUp_23 : decode cX4_addUp 23 = .ok (.invokeinterface 86 1, 5) := by decide +kernel
theorem dX4_addUp_28 : decode cX4_addUp 28 = .ok (.if_icmp .ge 83, 3) := by decide +kernel
theorem dX4_addUp_31 : decode cX4_addUp 31 = .ok (.aload_n 0, 1) := by decide +kernel
theorem dX4_addUp_32 : decode cX4_addUp 32 = .ok (.getfield 16, 3) := by decide +kernel
theorem dX4_addUp_35 : decode cX4_addUp 35 = .ok (.iload 4, 2) := by decide +kernel
theorem dX4_addUp_37 : decode cX4_addUp 37 = .ok (.invokeinterface 277 2, 5) := by decide +kernel
theorem dX4_addUp_42 : decode cX4_addUp 42 = .ok (.checkcast 192, 3) := by decide +kernel
theorem dX4_addUp_45 : decode cX4_addUp 45 = .ok (.astore 5, 2) := by decide +kernel
theorem dX4_addUp_47 : decode cX4_addUp 47 = .ok (.aload 5, 2) := by decide +kernel
theorem dX4_addUp_49 : decode cX4_addUp 49 = .ok (.getfield 209, 3) := by decide +kernel
theorem dX4_addUp_52 : decode cX4_addUp 52 = .ok (.aload_n 1, 1) := by decide +kernel
theorem dX4_addUp_53 : decode cX4_addUp 53 = .ok (.getfield 209, 3) := by decide +kernel
theorem dX4_addUp_56 : decode cX4_addUp 56 = .ok (.if_icmp .ne 49, 3) := by decide +kernel
theorem dX4_addUp_59 : decode cX4_addUp 59 = .ok (.aload 5, 2) := by decide +kernel
theorem dX4_addUp_61 : decode cX4_addUp 61 = .ok (.getfield 348, 3) := by decide +kernel
theorem dX4_addUp_64 : decode cX4_addUp 64 = .ok (.aload_n 1, 1) := by decide +kernel
theorem dX4_addUp_65 : decode cX4_addUp 65 = .ok (.getfield 348, 3) := by decide +kernel
theorem dX4_addUp_68 : decode cX4_addUp 68 = .ok (.if_icmp .ne 37, 3) := by decide +kernel
theorem dX4_addUp_71 : decode cX4_addUp 71 = .ok (.aload_n 2, 1) := by decide +kernel
theorem dX4_addUp_72 : decode cX4_addUp 72 = .ok (.aload 5, 2) := by decide +kernel
theorem dX4_addUp_74 : decode cX4_addUp 74 = .ok (.invokevirtual 351, 3) := by decide +kernel
theorem dX4_addUp_77 : decode cX4_addUp 77 = .ok (.ifCond .ne 28, 3) := by decide +kernel
theorem dX4_addUp_80 : decode cX4_addUp 80 = .ok (.aload_n 2, 1) := by decide +kernel
theorem dX4_addUp_81 : decode cX4_addUp 81 = .ok (.getfield 222, 3) := by decide +kernel
theorem dX4_addUp_84 : decode cX4_addUp 84 = .ok (.aload 5, 2) := by decide +kernel
theorem dX4_addUp_86 : decode cX4_addUp 86 = .ok (.getfield 237, 3) := by decide +kernel
theorem dX4_addUp_89 : decode cX4_addUp 89 = .ok (.isub, 1) := by decide +kernel
theorem dX4_addUp_90 : decode cX4_addUp 90 = .ok (.aload_n 2, 1) := by decide +kernel
theorem dX4_addUp_91 : decode cX4_addUp 91 = .ok (.getfield 272, 3) := by decide +kernel
theorem dX4_addUp_94 : decode cX4_addUp 94 = .ok (.if_icmp .ge 11, 3) := by decide +kernel
theorem dX4_addUp_97 : decode cX4_addUp 97 = .ok (.iload_n 3, 1) := by decide +kernel
theorem dX4_addUp_98 : decode cX4_addUp 98 = .ok (.aload 5, 2) := by decide +kernel
theorem dX4_addUp_100 : decode cX4_addUp 100 = .ok (.getfield 281, 3) := by decide +kernel
theorem dX4_addUp_103 : decode cX4_addUp 103 = .ok (.iadd, 1) := by decide +kernel
theorem dX4_addUp_104 : decode cX4_addUp 104 = .ok (.istore_n 3, 1) := by decide +kernel
theorem dX4_addUp_105 : decode cX4_addUp 105 = .ok (.iinc 4 1, 3) := by decide +kernel
theorem dX4_addUp_108 : decode cX4_addUp 108 = .ok (.goto (-100), 3) := by decide +kernel
theorem dX4_addUp_111 : decode cX4_addUp 111 = .ok (.iload_n 3, 1) := by decide +kernel
theorem dX4_addUp_112 : decode cX4_addUp 112 = .ok (.ireturn, 1) := by decide +kernel
theorem dX4_signersSuffice_0 : decode cX4_signersSuffice 0 = .ok (.aload_n 0, 1) := by decide +kernel
theorem dX4_signersSuffice_1 : decode cX4_signersSuffice 1 = .ok (.aload_n 1, 1) := by decide +kernel
theorem dX4_signersSuffice_2 : decode cX4_signersSuffice 2 = .ok (.getfield 355, 3) := by decide +kernel
theorem dX4_signersSuffice_5 : decode cX4_signersSuffice 5 = .ok (.aload_n 1, 1) := by decide +kernel
theorem dX4_signersSuffice_6 : decode cX4_signersSuffice 6 = .ok (.getfield 209, 3) := by decide +kernel
theorem dX4_signersSuffice_9 : decode cX4_signersSuffice 9 = .ok (.iload_n 2, 1) := by decide +kernel
theorem dX4_signersSuffice_10 : decode cX4_signersSuffice 10 = .ok (.aload_n 3, 1) := by decide +kernel
theorem dX4_signersSuffice_11 : decode cX4_signersSuffice 11 = .ok (.invokevirtual 179, 3) := by decide +kernel
theorem dX4_signersSuffice_14 : decode cX4_signersSuffice 14 = .ok (.istore 4, 2) := by decide +kernel
theorem dX4_signersSuffice_16 : decode cX4_signersSuffice 16 = .ok (.aload_n 1, 1) := by decide +kernel
theorem dX4_signersSuffice_17 : decode cX4_signersSuffice 17 = .ok (.getfield 358, 3) := by decide +kernel
theorem dX4_signersSuffice_20 : decode cX4_signersSuffice 20 = .ok (.iconst (-1), 1) := by decide +kernel
theorem dX4_signersSuffice_21 : decode cX4_signersSuffice 21 = .ok (.if_icmp .ne 7, 3) := by decide +kernel
theorem dX4_signersSuffice_24 : decode cX4_signersSuffice 24 = .ok (.iconst 0, 1) := by decide +kernel
theorem dX4_signersSuffice_25 : decode cX4_signersSuffice 25 = .ok (.goto 17, 3) := by decide +kernel
theorem dX4_signersSuffice_28 : decode cX4_signersSuffice 28 = .ok (.aload_n 0, 1) := by decide +kernel
theorem dX4_signersSuffice_29 : decode cX4_signersSuffice 29 = .ok (.aload_n 1, 1) := by decide +kernel
theorem dX4_signersSuffice_30 : decode cX4_signersSuffice 30 = .ok (.getfield 358, 3) := by decide +kernel
theorem dX4_signersSuffice_33 : decode cX4_signersSuffice 33 = .ok (.aload_n 1, 1) := by decide +kernel
theorem dX4_signersSuffice_34 : decode cX4_signersSuffice 34 = .ok (.getfield 209, 3) := by decide +kernel
theorem dX4_signersSuffice_37 : decode cX4_signersSuffice 37 = .ok (.iload_n 2, 1) := by decide +kernel
theorem dX4_signersSuffice_38 : decode cX4_signersSuffice 38 = .ok (.aload_n 3, 1) := by decide +kernel
theorem dX4_signersSuffice_39 : decode cX4_signersSuffice 39 = .ok (.invokevirtual 179, 3) := by decide +kernel
theorem dX4_signersSuffice_42 : decode cX4_signersSuffice 42 = .ok (.istore 5, 2) := by decide +kernel
theorem dX4_signersSuffice_44 : decode cX4_signersSuffice 44 = .ok (.iload 4, 2) := by decide +kernel
theorem dX4_signersSuffice_46 : decode cX4_signersSuffice 46 = .ok (.iload 5, 2) := by decide +kernel
theorem dX4_signersSuffice_48 : decode cX4_signersSuffice 48 = .ok (.invokestatic 341, 3) := by decide +kernel
theorem dX4_signersSuffice_51 : decode cX4_signersSuffice 51 = .ok (.ireturn, 1) := by decide +kernel
theorem dX4_findLack_0 : decode cX4_findLack 0 = .ok (.aload_n 1, 1) := by decide +kernel
theorem dX4_findLack_1 : decode cX4_findLack 1 = .ok (.bipush 107, 2) := by decide +kernel
theorem dX4_findLack_3 : decode cX4_findLack 3 = .ok (.putfield 255, 3) := by decide +kernel
theorem dX4_findLack_6 : decode cX4_findLack 6 = .ok (.iconst 0, 1) := by decide +kernel
theorem dX4_findLack_7 : decode cX4_findLack 7 = .ok (.istore_n 2, 1) := by decide +kernel
theorem dX4_findLack_8 : decode cX4_findLack 8 = .ok (.iload_n 2, 1) := by decide +kernel
theorem dX4_findLack_9 : decode cX4_findLack 9 = .ok (.aload_n 0, 1) := by decide +kernel
theorem dX4_findLack_10 : decode cX4_findLack 10 = .ok (.getfield 10, 3) := by decide +kernel
theorem dX4_findLack_13 : decode cX4_findLack 13 = .ok (.invokeinterface 86 1, 5) := by decide +kernel
theorem dX4_findLack_18 : decode cX4_findLack 18 = .ok (.if_icmp .ge 49, 3) := by decide +kernel
theorem dX4_findLack_21 : decode cX4_findLack 21 = .ok (.aload_n 0, 1) := by decide +kernel
theorem dX4_findLack_22 : decode cX4_findLack 22 = .ok (.getfield 10, 3) := by decide +kernel
theorem dX4_findLack_25 : decode cX4_findLack 25 = .ok (.iload_n 2, 1) := by decide +kernel
theorem dX4_findLack_26 : decode cX4_findLack 26 = .ok (.invokeinterface 277 2, 5) := by decide +kernel
theorem dX4_findLack_31 : decode cX4_findLack 31 = .ok (.checkcast 84, 3) := by decide +kernel
theorem dX4_findLack_34 : decode cX4_findLack 34 = .ok (.astore_n 3, 1) := by decide +kernel
theorem dX4_findLack_35 : decode cX4_findLack 35 = .ok (.aload_n 3, 1) := by decide +kernel
theorem dX4_findLack_36 : decode cX4_findLack 36 = .ok (.getfield 127, 3) := by decide +kernel
theorem dX4_findLack_39 : decode cX4_findLack 39 = .ok (.aload_n 1, 1) := by decide +kernel
theorem dX4_findLack_40 : decode cX4_findLack 40 = .ok (.getfield 209, 3) := by decide +kernel
theorem dX4_findLack_43 : decode cX4_findLack 43 = .ok (.if_icmp .ne 18, 3) := by decide +kernel
theorem dX4_findLack_46 : decode cX4_findLack 46 = .ok (.aload_n 0, 1) := by decide +kernel
theorem dX4_findLack_47 : decode cX4_findLack 47 = .ok (.aload_n 3, 1) := by decide +kernel
theorem dX4_findLack_48 : decode cX4_findLack 48 = .ok (.aload_n 1, 1) := by decide +kernel
theorem dX4_findLack_49 : decode cX4_findLack 49 = .ok (.invokevirtual 361, 3) := by decide +kernel
theorem dX4_findLack_52 : decode cX4_findLack 52 = .ok (.ifCond .eq 9, 3) := by decide +kernel
theorem dX4_findLack_55 : decode cX4_findLack 55 = .ok (.aload_n 0, 1) := by decide +kernel
theorem dX4_findLack_56 : decode cX4_findLack 56 = .ok (.aload_n 1, 1) := by decide +kernel
theorem dX4_findLack_57 : decode cX4_findLack 57 = .ok (.aload_n 3, 1) := by decide +kernel
theorem dX4_findLack_58 : decode cX4_findLack 58 = .ok (.invokevirtual 365, 3) := by decide +kernel
theorem dX4_findLack_61 : decode cX4_findLack 61 = .ok (.iinc 2 1, 3) := by decide +kernel
theorem dX4_findLack_64 : decode cX4_findLack 64 = .ok (.goto (-56), 3) := by decide +kernel
theorem dX4_findLack_67 : decode cX4_findLack 67 = .ok (.return_, 1) := by decide +kernel
theorem dX4_signersActBy_0 : decode cX4_signersActBy 0 = .ok (.aload_n 0, 1) := by decide +kernel
theorem dX4_signersActBy_1 : decode cX4_signersActBy 1 = .ok (.getfield 25, 3) := by decide +kernel
theorem dX4_signersActBy_4 : decode cX4_signersActBy 4 = .ok (.aload_n 2, 1) := by decide +kernel
theorem dX4_signersActBy_5 : decode cX4_signersActBy 5 = .ok (.getfield 355, 3) := by decide +kernel
theorem dX4_signersActBy_8 : decode cX4_signersActBy 8 = .ok (.aload_n 1, 1) := by decide +kernel
theorem dX4_signersActBy_9 : decode cX4_signersActBy 9 = .ok (.getfield 103, 3) := by decide +kernel
theorem dX4_signersActBy_12 : decode cX4_signersActBy 12 = .ok (.invokevirtual 65, 3) := by decide +kernel
theorem dX4_signersActBy_15 : decode cX4_signersActBy 15 = .ok (.ifCond .ne 29, 3) := by decide +kernel
theorem dX4_signersActBy_18 : decode cX4_signersActBy 18 = .ok (.aload_n 2, 1) := by decide +kernel
theorem dX4_signersActBy_19 : decode cX4_signersActBy 19 = .ok (.getfield 358, 3) := by decide +kernel
theorem dX4_signersActBy_22 : decode cX4_signersActBy 22 = .ok (.iconst (-1), 1) := by decide +kernel
theorem dX4_signersActBy_23 : decode cX4_signersActBy 23 = .ok (.if_icmp .eq 25, 3) := by decide +kernel
theorem dX4_signersActBy_26 : decode cX4_signersActBy 26 = .ok (.aload_n 0, 1) := by decide +kernel
theorem dX4_signersActBy_27 : decode cX4_signersActBy 27 = .ok (.getfield 25, 3) := by decide +kernel
theorem dX4_signersActBy_30 : decode cX4_signersActBy 30 = .ok (.aload_n 2, 1) := by decide +kernel
theorem dX4_signersActBy_31 : decode cX4_signersActBy 31 = .ok (.getfield 358, 3) := by decide +kernel
theorem dX4_signersActBy_34 : decode cX4_signersActBy 34 = .ok (.aload_n 1, 1) := by decide +kernel
theorem dX4_signersActBy_35 : decode cX4_signersActBy 35 = .ok (.getfield 103, 3) := by decide +kernel
theorem dX4_signersActBy_38 : decode cX4_signersActBy 38 = .ok (.invokevirtual 65, 3) := by decide +kernel
theorem dX4_signersActBy_41 : decode cX4_signersActBy 41 = .ok (.ifCond .eq 7, 3) := by decide +kernel
theorem dX4_signersActBy_44 : decode cX4_signersActBy 44 = .ok (.iconst 1, 1) := by decide +kernel
theorem dX4_signersActBy_45 : decode cX4_signersActBy 45 = .ok (.goto 4, 3) := by decide +kernel
theorem dX4_signersActBy_48 : decode cX4_signersActBy 48 = .ok (.iconst 0, 1) := by decide +kernel
theorem dX4_signersActBy_49 : decode cX4_signersActBy 49 = .ok (.ireturn, 1) := by decide +kernel
theorem dX4_noteLack_0 : decode cX4_noteLack 0 = .ok (.aload_n 0, 1) := by decide +kernel
theorem dX4_noteLack_1 : decode cX4_noteLack 1 = .ok (.getfield 25, 3) := by decide +kernel
theorem dX4_noteLack_4 : decode cX4_noteLack 4 = .ok (.aload_n 2, 1) := by decide +kernel
theorem dX4_noteLack_5 : decode cX4_noteLack 5 = .ok (.aload_n 1, 1) := by decide +kernel
theorem dX4_noteLack_6 : decode cX4_noteLack 6 = .ok (.getfield 210, 3) := by decide +kernel
theorem dX4_noteLack_9 : decode cX4_noteLack 9 = .ok (.invokevirtual 152, 3) := by decide +kernel
theorem dX4_noteLack_12 : decode cX4_noteLack 12 = .ok (.istore_n 3, 1) := by decide +kernel
theorem dX4_noteLack_13 : decode cX4_noteLack 13 = .ok (.iload_n 3, 1) := by decide +kernel
theorem dX4_noteLack_14 : decode cX4_noteLack 14 = .ok (.bipush 45, 2) := by decide +kernel
theorem dX4_noteLack_16 : decode cX4_noteLack 16 = .ok (.if_icmp .ne 8, 3) := by decide +kernel
theorem dX4_noteLack_19 : decode cX4_noteLack 19 = .ok (.bipush 104, 2) := by decide +kernel
theorem dX4_noteLack_21 : decode cX4_noteLack 21 = .ok (.goto 4, 3) := by decide +kernel
theorem dX4_noteLack_24 : decode cX4_noteLack 24 = .ok (.iload_n 3, 1) := by decide +kernel
theorem dX4_noteLack_25 : decode cX4_noteLack 25 = .ok (.istore 4, 2) := by decide +kernel
theorem dX4_noteLack_27 : decode cX4_noteLack 27 = .ok (.ldc_w 369, 3) := by decide +kernel
theorem dX4_noteLack_30 : decode cX4_noteLack 30 = .ok (.iload 4, 2) := by decide +kernel
theorem dX4_noteLack_32 : decode cX4_noteLack 32 = .ok (.invokevirtual 371, 3) := by decide +kernel
theorem dX4_noteLack_35 : decode cX4_noteLack 35 = .ok (.ldc_w 369, 3) := by decide +kernel
theorem dX4_noteLack_38 : decode cX4_noteLack 38 = .ok (.aload_n 1, 1) := by decide +kernel
theorem dX4_noteLack_39 : decode cX4_noteLack 39 = .ok (.getfield 255, 3) := by decide +kernel
theorem dX4_noteLack_42 : decode cX4_noteLack 42 = .ok (.invokevirtual 371, 3) := by decide +kernel
theorem dX4_noteLack_45 : decode cX4_noteLack 45 = .ok (.if_icmp .le 43, 3) := by decide +kernel
theorem dX4_noteLack_48 : decode cX4_noteLack 48 = .ok (.aload_n 1, 1) := by decide +kernel
theorem dX4_noteLack_49 : decode cX4_noteLack 49 = .ok (.iload 4, 2) := by decide +kernel
theorem dX4_noteLack_51 : decode cX4_noteLack 51 = .ok (.putfield 255, 3) := by decide +kernel
theorem dX4_noteLack_54 : decode cX4_noteLack 54 = .ok (.aload_n 1, 1) := by decide +kernel
theorem dX4_noteLack_55 : decode cX4_noteLack 55 = .ok (.aload_n 2, 1) := by decide +kernel
theorem dX4_noteLack_56 : decode cX4_noteLack 56 = .ok (.getfield 146, 3) := by decide +kernel
theorem dX4_noteLack_59 : decode cX4_noteLack 59 = .ok (.putfield 263, 3) := by decide +kernel
theorem dX4_noteLack_62 : decode cX4_noteLack 62 = .ok (.aload_n 1, 1) := by decide +kernel
theorem dX4_noteLack_63 : decode cX4_noteLack 63 = .ok (.iload_n 3, 1) := by decide +kernel
theorem dX4_noteLack_64 : decode cX4_noteLack 64 = .ok (.bipush 45, 2) := by decide +kernel
theorem dX4_noteLack_66 : decode cX4_noteLack 66 = .ok (.if_icmp .ne 7, 3) := by decide +kernel
theorem dX4_noteLack_69 : decode cX4_noteLack 69 = .ok (.iconst 0, 1) := by decide +kernel
theorem dX4_noteLack_70 : decode cX4_noteLack 70 = .ok (.goto 15, 3) := by decide +kernel
theorem dX4_noteLack_73 : decode cX4_noteLack 73 = .ok (.aload_n 0, 1) := by decide +kernel
theorem dX4_noteLack_74 : decode cX4_noteLack 74 = .ok (.getfield 25, 3) := by decide +kernel
theorem dX4_noteLack_77 : decode cX4_noteLack 77 = .ok (.aload_n 2, 1) := by decide +kernel
theorem dX4_noteLack_78 : decode cX4_noteLack 78 = .ok (.aload_n 1, 1) := by decide +kernel
theorem dX4_noteLack_79 : decode cX4_noteLack 79 = .ok (.getfield 210, 3) := by decide +kernel
theorem dX4_noteLack_82 : decode cX4_noteLack 82 = .ok (.invokevirtual 156, 3) := by decide +kernel
theorem dX4_noteLack_85 : decode cX4_noteLack 85 = .ok (.putfield 266, 3) := by decide +kernel
theorem dX4_noteLack_88 : decode cX4_noteLack 88 = .ok (.return_, 1) := by decide +kernel
theorem dX4_countWaiting_0 : decode cX4_countWaiting 0 = .ok (.iconst 0, 1) := by decide +kernel
theorem dX4_countWaiting_1 : decode cX4_countWaiting 1 = .ok (.istore_n 1, 1) := by decide +kernel
theorem dX4_countWaiting_2 : decode cX4_countWaiting 2 = .ok (.iconst 0, 1) := by decide +kernel
theorem dX4_countWaiting_3 : decode cX4_countWaiting 3 = .ok (.istore_n 2, 1) := by decide +kernel
theorem dX4_countWaiting_4 : decode cX4_countWaiting 4 = .ok (.iload_n 2, 1) := by decide +kernel
theorem dX4_countWaiting_5 : decode cX4_countWaiting 5 = .ok (.aload_n 0, 1) := by decide +kernel
theorem dX4_countWaiting_6 : decode cX4_countWaiting 6 = .ok (.getfield 16, 3) := by decide +kernel
theorem dX4_countWaiting_9 : decode cX4_countWaiting 9 = .ok (.invokeinterface 86 1, 5) := by decide +kernel
theorem dX4_countWaiting_14 : decode cX4_countWaiting 14 = .ok (.if_icmp .ge 33, 3) := by decide +kernel
theorem dX4_countWaiting_17 : decode cX4_countWaiting 17 = .ok (.aload_n 0, 1) := by decide +kernel
theorem dX4_countWaiting_18 : decode cX4_countWaiting 18 = .ok (.getfield 16, 3) := by decide +kernel
theorem dX4_countWaiting_21 : decode cX4_countWaiting 21 = .ok (.iload_n 2, 1) := by decide +kernel
theorem dX4_countWaiting_22 : decode cX4_countWaiting 22 = .ok (.invokeinterface 277 2, 5) := by decide +kernel
theorem dX4_countWaiting_27 : decode cX4_countWaiting 27 = .ok (.checkcast 192, 3) := by decide +kernel
theorem dX4_countWaiting_30 : decode cX4_countWaiting 30 = .ok (.getfield 215, 3) := by decide +kernel
theorem dX4_countWaiting_33 : decode cX4_countWaiting 33 = .ok (.bipush 119, 2) := by decide +kernel
theorem dX4_countWaiting_35 : decode cX4_countWaiting 35 = .ok (.if_icmp .ne 6, 3) := by decide +kernel
theorem dX4_countWaiting_38 : decode cX4_countWaiting 38 = .ok (.iinc 1 1, 3) := by decide +kernel
theorem dX4_countWaiting_41 : decode cX4_countWaiting 41 = .ok (.iinc 2 1, 3) := by decide +kernel
theorem dX4_countWaiting_44 : decode cX4_countWaiting 44 = .ok (.goto (-40), 3) := by decide +kernel
theorem dX4_countWaiting_47 : decode cX4_countWaiting 47 = .ok (.iload_n 1, 1) := by decide +kernel
theorem dX4_countWaiting_48 : decode cX4_countWaiting 48 = .ok (.ireturn, 1) := by decide +kernel
theorem dJ11_isValidCodePoint_9a6ad_0 : decode cJ11_isValidCodePoint_9a6ad 0 = .ok (.iload_n 0, 1) := by decide +kernel
theorem dJ11_isValidCodePoint_9a6ad_1 : decode cJ11_isValidCodePoint_9a6ad 1 = .ok (.bipush 16, 2) := by decide +kernel
theorem dJ11_isValidCodePoint_9a6ad_3 : decode cJ11_isValidCodePoint_9a6ad 3 = .ok (.iushr, 1) := by decide +kernel
theorem dJ11_isValidCodePoint_9a6ad_4 : decode cJ11_isValidCodePoint_9a6ad 4 = .ok (.istore_n 1, 1) := by decide +kernel
theorem dJ11_isValidCodePoint_9a6ad_5 : decode cJ11_isValidCodePoint_9a6ad 5 = .ok (.iload_n 1, 1) := by decide +kernel
theorem dJ11_isValidCodePoint_9a6ad_6 : decode cJ11_isValidCodePoint_9a6ad 6 = .ok (.bipush 17, 2) := by decide +kernel
theorem dJ11_isValidCodePoint_9a6ad_8 : decode cJ11_isValidCodePoint_9a6ad 8 = .ok (.if_icmp .ge 7, 3) := by decide +kernel
theorem dJ11_isValidCodePoint_9a6ad_11 : decode cJ11_isValidCodePoint_9a6ad 11 = .ok (.iconst 1, 1) := by decide +kernel
theorem dJ11_isValidCodePoint_9a6ad_12 : decode cJ11_isValidCodePoint_9a6ad 12 = .ok (.goto 4, 3) := by decide +kernel
theorem dJ11_isValidCodePoint_9a6ad_15 : decode cJ11_isValidCodePoint_9a6ad 15 = .ok (.iconst 0, 1) := by decide +kernel
theorem dJ11_isValidCodePoint_9a6ad_16 : decode cJ11_isValidCodePoint_9a6ad 16 = .ok (.ireturn, 1) := by decide +kernel
theorem dJ11_highSurrogate_5068e_0 : decode cJ11_highSurrogate_5068e 0 = .ok (.iload_n 0, 1) := by decide +kernel
theorem dJ11_highSurrogate_5068e_1 : decode cJ11_highSurrogate_5068e 1 = .ok (.bipush 10, 2) := by decide +kernel
theorem dJ11_highSurrogate_5068e_3 : decode cJ11_highSurrogate_5068e 3 = .ok (.iushr, 1) := by decide +kernel
theorem dJ11_highSurrogate_5068e_4 : decode cJ11_highSurrogate_5068e 4 = .ok (.ldc 110, 2) := by decide +kernel
theorem dJ11_highSurrogate_5068e_6 : decode cJ11_highSurrogate_5068e 6 = .ok (.iadd, 1) := by decide +kernel
theorem dJ11_highSurrogate_5068e_7 : decode cJ11_highSurrogate_5068e 7 = .ok (.i2c, 1) := by decide +kernel
theorem dJ11_highSurrogate_5068e_8 : decode cJ11_highSurrogate_5068e 8 = .ok (.ireturn, 1) := by decide +kernel
theorem dJ11_lowSurrogate_5068e_0 : decode cJ11_lowSurrogate_5068e 0 = .ok (.iload_n 0, 1) := by decide +kernel
theorem dJ11_lowSurrogate_5068e_1 : decode cJ11_lowSurrogate_5068e 1 = .ok (.sipush 1023, 3) := by decide +kernel
theorem dJ11_lowSurrogate_5068e_4 : decode cJ11_lowSurrogate_5068e 4 = .ok (.iand, 1) := by decide +kernel
theorem dJ11_lowSurrogate_5068e_5 : decode cJ11_lowSurrogate_5068e 5 = .ok (.ldc 76, 2) := by decide +kernel
theorem dJ11_lowSurrogate_5068e_7 : decode cJ11_lowSurrogate_5068e 7 = .ok (.iadd, 1) := by decide +kernel
theorem dJ11_lowSurrogate_5068e_8 : decode cJ11_lowSurrogate_5068e 8 = .ok (.i2c, 1) := by decide +kernel
theorem dJ11_lowSurrogate_5068e_9 : decode cJ11_lowSurrogate_5068e 9 = .ok (.ireturn, 1) := by decide +kernel
theorem dJ9_max_7cf53_0 : decode cJ9_max_7cf53 0 = .ok (.iload_n 0, 1) := by decide +kernel
theorem dJ9_max_7cf53_1 : decode cJ9_max_7cf53 1 = .ok (.iload_n 1, 1) := by decide +kernel
theorem dJ9_max_7cf53_2 : decode cJ9_max_7cf53 2 = .ok (.if_icmp .lt 7, 3) := by decide +kernel
theorem dJ9_max_7cf53_5 : decode cJ9_max_7cf53 5 = .ok (.iload_n 0, 1) := by decide +kernel
theorem dJ9_max_7cf53_6 : decode cJ9_max_7cf53 6 = .ok (.goto 4, 3) := by decide +kernel
theorem dJ9_max_7cf53_9 : decode cJ9_max_7cf53 9 = .ok (.iload_n 1, 1) := by decide +kernel
theorem dJ9_max_7cf53_10 : decode cJ9_max_7cf53 10 = .ok (.ireturn, 1) := by decide +kernel
theorem dJ9_min_7cf53_0 : decode cJ9_min_7cf53 0 = .ok (.iload_n 0, 1) := by decide +kernel
theorem dJ9_min_7cf53_1 : decode cJ9_min_7cf53 1 = .ok (.iload_n 1, 1) := by decide +kernel
theorem dJ9_min_7cf53_2 : decode cJ9_min_7cf53 2 = .ok (.if_icmp .gt 7, 3) := by decide +kernel
theorem dJ9_min_7cf53_5 : decode cJ9_min_7cf53 5 = .ok (.iload_n 0, 1) := by decide +kernel
theorem dJ9_min_7cf53_6 : decode cJ9_min_7cf53 6 = .ok (.goto 4, 3) := by decide +kernel
theorem dJ9_min_7cf53_9 : decode cJ9_min_7cf53 9 = .ok (.iload_n 1, 1) := by decide +kernel
theorem dJ9_min_7cf53_10 : decode cJ9_min_7cf53 10 = .ok (.ireturn, 1) := by decide +kernel
theorem dJ0_length_8abf5_0 : decode cJ0_length_8abf5 0 = .ok (.aload_n 0, 1) := by decide +kernel
theorem dJ0_length_8abf5_1 : decode cJ0_length_8abf5 1 = .ok (.getfield 9, 3) := by decide +kernel
theorem dJ0_length_8abf5_4 : decode cJ0_length_8abf5 4 = .ok (.arraylength, 1) := by decide +kernel
theorem dJ0_length_8abf5_5 : decode cJ0_length_8abf5 5 = .ok (.aload_n 0, 1) := by decide +kernel
theorem dJ0_length_8abf5_6 : decode cJ0_length_8abf5 6 = .ok (.invokevirtual 335, 3) := by decide +kernel
theorem dJ0_length_8abf5_9 : decode cJ0_length_8abf5 9 = .ok (.ishr, 1) := by decide +kernel
theorem dJ0_length_8abf5_10 : decode cJ0_length_8abf5 10 = .ok (.ireturn, 1) := by decide +kernel
theorem dJ0_indexOf_0f7a4_0 : decode cJ0_indexOf_0f7a4 0 = .ok (.aload_n 0, 1) := by decide +kernel
theorem dJ0_indexOf_0f7a4_1 : decode cJ0_indexOf_0f7a4 1 = .ok (.iload_n 1, 1) := by decide +kernel
theorem dJ0_indexOf_0f7a4_2 : decode cJ0_indexOf_0f7a4 2 = .ok (.iconst 0, 1) := by decide +kernel
theorem dJ0_indexOf_0f7a4_3 : decode cJ0_indexOf_0f7a4 3 = .ok (.invokevirtual 633, 3) := by decide +kernel
theorem dJ0_indexOf_0f7a4_6 : decode cJ0_indexOf_0f7a4 6 = .ok (.ireturn, 1) := by decide +kernel
theorem dJ0_indexOf_7cf53_0 : decode cJ0_indexOf_7cf53 0 = .ok (.aload_n 0, 1) := by decide +kernel
theorem dJ0_indexOf_7cf53_1 : decode cJ0_indexOf_7cf53 1 = .ok (.invokevirtual 492, 3) := by decide +kernel
theorem dJ0_indexOf_7cf53_4 : decode cJ0_indexOf_7cf53 4 = .ok (.ifCond .eq 19, 3) := by decide +kernel
theorem dJ0_indexOf_7cf53_7 : decode cJ0_indexOf_7cf53 7 = .ok (.aload_n 0, 1) := by decide +kernel
theorem dJ0_indexOf_7cf53_8 : decode cJ0_indexOf_7cf53 8 = .ok (.getfield 9, 3) := by decide +kernel
theorem dJ0_indexOf_7cf53_11 : decode cJ0_indexOf_7cf53 11 = .ok (.iload_n 1, 1) := by decide +kernel
theorem dJ0_indexOf_7cf53_12 : decode cJ0_indexOf_7cf53 12 = .ok (.iload_n 2, 1) := by decide +kernel
theorem dJ0_indexOf_7cf53_13 : decode cJ0_indexOf_7cf53 13 = .ok (.aload_n 0, 1) := by decide +kernel
theorem dJ0_indexOf_7cf53_14 : decode cJ0_indexOf_7cf53 14 = .ok (.invokevirtual 505, 3) := by decide +kernel
theorem dJ0_indexOf_7cf53_17 : decode cJ0_indexOf_7cf53 17 = .ok (.invokestatic 637, 3) := by decide +kernel
theorem dJ0_indexOf_7cf53_20 : decode cJ0_indexOf_7cf53 20 = .ok (.goto 16, 3) := by decide +kernel
theorem dJ0_indexOf_7cf53_23 : decode cJ0_indexOf_7cf53 23 = .ok (.aload_n 0, 1) := by decide +kernel
theorem dJ0_indexOf_7cf53_24 : decode cJ0_indexOf_7cf53 24 = .ok (.getfield 9, 3) := by decide +kernel
theorem dJ0_indexOf_7cf53_27 : decode cJ0_indexOf_7cf53 27 = .ok (.iload_n 1, 1) := by decide +kernel
theorem dJ0_indexOf_7cf53_28 : decode cJ0_indexOf_7cf53 28 = .ok (.iload_n 2, 1) := by decide +kernel
theorem dJ0_indexOf_7cf53_29 : decode cJ0_indexOf_7cf53 29 = .ok (.aload_n 0, 1) := by decide +kernel
theorem dJ0_indexOf_7cf53_30 : decode cJ0_indexOf_7cf53 30 = .ok (.invokevirtual 505, 3) := by decide +kernel
theorem dJ0_indexOf_7cf53_33 : decode cJ0_indexOf_7cf53 33 = .ok (.invokestatic 640, 3) := by decide +kernel
theorem dJ0_indexOf_7cf53_36 : decode cJ0_indexOf_7cf53 36 = .ok (.ireturn, 1) := by decide +kernel
theorem dJ0_coder_7d493_0 : decode cJ0_coder_7d493 0 = .ok (.getstatic 38, 3) := by decide +kernel
theorem dJ0_coder_7d493_3 : decode cJ0_coder_7d493 3 = .ok (.ifCond .eq 10, 3) := by decide +kernel
theorem dJ0_coder_7d493_6 : decode cJ0_coder_7d493 6 = .ok (.aload_n 0, 1) := by decide +kernel
theorem dJ0_coder_7d493_7 : decode cJ0_coder_7d493 7 = .ok (.getfield 15, 3) := by decide +kernel
theorem dJ0_coder_7d493_10 : decode cJ0_coder_7d493 10 = .ok (.goto 4, 3) := by decide +kernel
theorem dJ0_coder_7d493_13 : decode cJ0_coder_7d493 13 = .ok (.iconst 1, 1) := by decide +kernel
theorem dJ0_coder_7d493_14 : decode cJ0_coder_7d493 14 = .ok (.ireturn, 1) := by decide +kernel
theorem dJ0_isLatin1_aae02_0 : decode cJ0_isLatin1_aae02 0 = .ok (.getstatic 38, 3) := by decide +kernel
theorem dJ0_isLatin1_aae02_3 : decode cJ0_isLatin1_aae02 3 = .ok (.ifCond .eq 14, 3) := by decide +kernel
theorem dJ0_isLatin1_aae02_6 : decode cJ0_isLatin1_aae02 6 = .ok (.aload_n 0, 1) := by decide +kernel
theorem dJ0_isLatin1_aae02_7 : decode cJ0_isLatin1_aae02 7 = .ok (.getfield 15, 3) := by decide +kernel
theorem dJ0_isLatin1_aae02_10 : decode cJ0_isLatin1_aae02 10 = .ok (.ifCond .ne 7, 3) := by decide +kernel
theorem dJ0_isLatin1_aae02_13 : decode cJ0_isLatin1_aae02 13 = .ok (.iconst 1, 1) := by decide +kernel
theorem dJ0_isLatin1_aae02_14 : decode cJ0_isLatin1_aae02 14 = .ok (.goto 4, 3) := by decide +kernel
theorem dJ0_isLatin1_aae02_17 : decode cJ0_isLatin1_aae02 17 = .ok (.iconst 0, 1) := by decide +kernel
theorem dJ0_isLatin1_aae02_18 : decode cJ0_isLatin1_aae02 18 = .ok (.ireturn, 1) := by decide +kernel
theorem dJ0_checkBoundsBeginEnd_23922_0 : decode cJ0_checkBoundsBeginEnd_23922 0 = .ok (.iload_n 0, 1) := by decide +kernel
theorem dJ0_checkBoundsBeginEnd_23922_1 : decode cJ0_checkBoundsBeginEnd_23922 1 = .ok (.iload_n 1, 1) := by decide +kernel
theorem dJ0_checkBoundsBeginEnd_23922_2 : decode cJ0_checkBoundsBeginEnd_23922 2 = .ok (.iload_n 2, 1) := by decide +kernel
theorem dJ0_checkBoundsBeginEnd_23922_3 : decode cJ0_checkBoundsBeginEnd_23922 3 = .ok (.getstatic 1053, 3) := by decide +kernel
theorem dJ0_checkBoundsBeginEnd_23922_6 : decode cJ0_checkBoundsBeginEnd_23922 6 = .ok (.invokestatic 1062, 3) := by decide +kernel
theorem dJ0_checkBoundsBeginEnd_23922_9 : decode cJ0_checkBoundsBeginEnd_23922 9 = .ok (.pop, 1) := by decide +kernel
theorem dJ0_checkBoundsBeginEnd_23922_10 : decode cJ0_checkBoundsBeginEnd_23922 10 = .ok (.return_, 1) := by decide +kernel
theorem dJ1_canEncode_9a6ad_0 : decode cJ1_canEncode_9a6ad 0 = .ok (.iload_n 0, 1) := by decide +kernel
theorem dJ1_canEncode_9a6ad_1 : decode cJ1_canEncode_9a6ad 1 = .ok (.ifCond .lt 14, 3) := by decide +kernel
theorem dJ1_canEncode_9a6ad_4 : decode cJ1_canEncode_9a6ad 4 = .ok (.iload_n 0, 1) := by decide +kernel
theorem dJ1_canEncode_9a6ad_5 : decode cJ1_canEncode_9a6ad 5 = .ok (.sipush 255, 3) := by decide +kernel
theorem dJ1_canEncode_9a6ad_8 : decode cJ1_canEncode_9a6ad 8 = .ok (.if_icmp .gt 7, 3) := by decide +kernel
theorem dJ1_canEncode_9a6ad_11 : decode cJ1_canEncode_9a6ad 11 = .ok (.iconst 1, 1) := by decide +kernel
theorem dJ1_canEncode_9a6ad_12 : decode cJ1_canEncode_9a6ad 12 = .ok (.goto 4, 3) := by decide +kernel
theorem dJ1_canEncode_9a6ad_15 : decode cJ1_canEncode_9a6ad 15 = .ok (.iconst 0, 1) := by decide +kernel
theorem dJ1_canEncode_9a6ad_16 : decode cJ1_canEncode_9a6ad 16 = .ok (.ireturn, 1) := by decide +kernel
theorem dJ1_indexOf_4cfef_0 : decode cJ1_indexOf_4cfef 0 = .ok (.iload_n 1, 1) := by decide +kernel
theorem dJ1_indexOf_4cfef_1 : decode cJ1_indexOf_4cfef 1 = .ok (.invokestatic 88, 3) := by decide +kernel
theorem dJ1_indexOf_4cfef_4 : decode cJ1_indexOf_4cfef 4 = .ok (.ifCond .ne 5, 3) := by decide +kernel
theorem dJ1_indexOf_4cfef_7 : decode cJ1_indexOf_4cfef 7 = .ok (.iconst (-1), 1) := by decide +kernel
theorem dJ1_indexOf_4cfef_8 : decode cJ1_indexOf_4cfef 8 = .ok (.ireturn, 1) := by decide +kernel
theorem dJ1_indexOf_4cfef_9 : decode cJ1_indexOf_4cfef 9 = .ok (.iload_n 2, 1) := by decide +kernel
theorem dJ1_indexOf_4cfef_10 : decode cJ1_indexOf_4cfef 10 = .ok (.iconst 0, 1) := by decide +kernel
theorem dJ1_indexOf_4cfef_11 : decode cJ1_indexOf_4cfef 11 = .ok (.invokestatic 92, 3) := by decide +kernel
theorem dJ1_indexOf_4cfef_14 : decode cJ1_indexOf_4cfef 14 = .ok (.istore_n 2, 1) := by decide +kernel
theorem dJ1_indexOf_4cfef_15 : decode cJ1_indexOf_4cfef 15 = .ok (.iload_n 3, 1) := by decide +kernel
theorem dJ1_indexOf_4cfef_16 : decode cJ1_indexOf_4cfef 16 = .ok (.aload_n 0, 1) := by decide +kernel
theorem dJ1_indexOf_4cfef_17 : decode cJ1_indexOf_4cfef 17 = .ok (.arraylength, 1) := by decide +kernel
theorem dJ1_indexOf_4cfef_18 : decode cJ1_indexOf_4cfef 18 = .ok (.invokestatic 38, 3) := by decide +kernel
theorem dJ1_indexOf_4cfef_21 : decode cJ1_indexOf_4cfef 21 = .ok (.istore_n 3, 1) := by decide +kernel
theorem dJ1_indexOf_4cfef_22 : decode cJ1_indexOf_4cfef 22 = .ok (.iload_n 2, 1) := by decide +kernel
theorem dJ1_indexOf_4cfef_23 : decode cJ1_indexOf_4cfef 23 = .ok (.iload_n 3, 1) := by decide +kernel
theorem dJ1_indexOf_4cfef_24 : decode cJ1_indexOf_4cfef 24 = .ok (.if_icmp .lt 5, 3) := by decide +kernel
theorem dJ1_indexOf_4cfef_27 : decode cJ1_indexOf_4cfef 27 = .ok (.iconst (-1), 1) := by decide +kernel
theorem dJ1_indexOf_4cfef_28 : decode cJ1_indexOf_4cfef 28 = .ok (.ireturn, 1) := by decide +kernel
theorem dJ1_indexOf_4cfef_29 : decode cJ1_indexOf_4cfef 29 = .ok (.aload_n 0, 1) := by decide +kernel
theorem dJ1_indexOf_4cfef_30 : decode cJ1_indexOf_4cfef 30 = .ok (.iload_n 1, 1) := by decide +kernel
theorem dJ1_indexOf_4cfef_31 : decode cJ1_indexOf_4cfef 31 = .ok (.iload_n 2, 1) := by decide +kernel
theorem dJ1_indexOf_4cfef_32 : decode cJ1_indexOf_4cfef 32 = .ok (.iload_n 3, 1) := by decide +kernel
theorem dJ1_indexOf_4cfef_33 : decode cJ1_indexOf_4cfef 33 = .ok (.invokestatic 95, 3) := by decide +kernel
theorem dJ1_indexOf_4cfef_36 : decode cJ1_indexOf_4cfef 36 = .ok (.ireturn, 1) := by decide +kernel
theorem dJ1_indexOfChar_4cfef_0 : decode cJ1_indexOfChar_4cfef 0 = .ok (.iload_n 1, 1) := by decide +kernel
theorem dJ1_indexOfChar_4cfef_1 : decode cJ1_indexOfChar_4cfef 1 = .ok (.i2b, 1) := by decide +kernel
theorem dJ1_indexOfChar_4cfef_2 : decode cJ1_indexOfChar_4cfef 2 = .ok (.istore 4, 2) := by decide +kernel
theorem dJ1_indexOfChar_4cfef_4 : decode cJ1_indexOfChar_4cfef 4 = .ok (.iload_n 2, 1) := by decide +kernel
theorem dJ1_indexOfChar_4cfef_5 : decode cJ1_indexOfChar_4cfef 5 = .ok (.istore 5, 2) := by decide +kernel
theorem dJ1_indexOfChar_4cfef_7 : decode cJ1_indexOfChar_4cfef 7 = .ok (.iload 5, 2) := by decide +kernel
theorem dJ1_indexOfChar_4cfef_9 : decode cJ1_indexOfChar_4cfef 9 = .ok (.iload_n 3, 1) := by decide +kernel
theorem dJ1_indexOfChar_4cfef_10 : decode cJ1_indexOfChar_4cfef 10 = .ok (.if_icmp .ge 21, 3) := by decide +kernel
theorem dJ1_indexOfChar_4cfef_13 : decode cJ1_indexOfChar_4cfef 13 = .ok (.aload_n 0, 1) := by decide +kernel
theorem dJ1_indexOfChar_4cfef_14 : decode cJ1_indexOfChar_4cfef 14 = .ok (.iload 5, 2) := by decide +kernel
theorem dJ1_indexOfChar_4cfef_16 : decode cJ1_indexOfChar_4cfef 16 = .ok (.baload, 1) := by decide +kernel
theorem dJ1_indexOfChar_4cfef_17 : decode cJ1_indexOfChar_4cfef 17 = .ok (.iload 4, 2) := by decide +kernel
theorem dJ1_indexOfChar_4cfef_19 : decode cJ1_indexOfChar_4cfef 19 = .ok (.if_icmp .ne 6, 3) := by decide +kernel
theorem dJ1_indexOfChar_4cfef_22 : decode cJ1_indexOfChar_4cfef 22 = .ok (.iload 5, 2) := by decide +kernel
theorem dJ1_indexOfChar_4cfef_24 : decode cJ1_indexOfChar_4cfef 24 = .ok (.ireturn, 1) := by decide +kernel
theorem dJ1_indexOfChar_4cfef_25 : decode cJ1_indexOfChar_4cfef 25 = .ok (.iinc 5 1, 3) := by decide +kernel
theorem dJ1_indexOfChar_4cfef_28 : decode cJ1_indexOfChar_4cfef 28 = .ok (.goto (-21), 3) := by decide +kernel
theorem dJ1_indexOfChar_4cfef_31 : decode cJ1_indexOfChar_4cfef 31 = .ok (.iconst (-1), 1) := by decide +kernel
theorem dJ1_indexOfChar_4cfef_32 : decode cJ1_indexOfChar_4cfef 32 = .ok (.ireturn, 1) := by decide +kernel
theorem dJ2_getChar_3b067_0 : decode cJ2_getChar_3b067 0 = .ok (.getstatic 44, 3) := by decide +kernel
theorem dJ2_getChar_3b067_3 : decode cJ2_getChar_3b067 3 = .ok (.ifCond .ne 25, 3) := by decide +kernel
theorem dJ2_getChar_3b067_6 : decode cJ2_getChar_3b067 6 = .ok (.iload_n 1, 1) := by decide +kernel
theorem dJ2_getChar_3b067_7 : decode cJ2_getChar_3b067 7 = .ok (.ifCond .lt 11, 3) := by decide +kernel
theorem dJ2_getChar_3b067_10 : decode cJ2_getChar_3b067 10 = .ok (.iload_n 1, 1) := by decide +kernel
theorem dJ2_getChar_3b067_11 : decode cJ2_getChar_3b067 11 = .ok (.aload_n 0, 1) := by decide +kernel
theorem dJ2_getChar_3b067_12 : decode cJ2_getChar_3b067 12 = .ok (.invokestatic 48, 3) := by decide +kernel
theorem dJ2_getChar_3b067_15 : decode cJ2_getChar_3b067 15 = .ok (.if_icmp .lt 13, 3) := by decide +kernel
theorem dJ2_getChar_3b067_18 : decode cJ2_getChar_3b067 18 = .ok (.new 52, 3) := by decide +kernel
theorem dJ2_getChar_3b067_21 : decode cJ2_getChar_3b067 21 = .ok (.dup, 1) := by decide +kernel
theorem dJ2_getChar_3b067_22 : decode cJ2_getChar_3b067 22 = .ok (.ldc 54, 2) := by decide +kernel
theorem dJ2_getChar_3b067_24 : decode cJ2_getChar_3b067 24 = .ok (.invokespecial 56, 3) := by decide +kernel
theorem dJ2_getChar_3b067_27 : decode cJ2_getChar_3b067 27 = .ok (.athrow, 1) := by decide +kernel
theorem dJ2_getChar_3b067_28 : decode cJ2_getChar_3b067 28 = .ok (.iload_n 1, 1) := by decide +kernel
theorem dJ2_getChar_3b067_29 : decode cJ2_getChar_3b067 29 = .ok (.iconst 1, 1) := by decide +kernel
theorem dJ2_getChar_3b067_30 : decode cJ2_getChar_3b067 30 = .ok (.ishl, 1) := by decide +kernel
theorem dJ2_getChar_3b067_31 : decode cJ2_getChar_3b067 31 = .ok (.istore_n 1, 1) := by decide +kernel
theorem dJ2_getChar_3b067_32 : decode cJ2_getChar_3b067 32 = .ok (.aload_n 0, 1) := by decide +kernel
theorem dJ2_getChar_3b067_33 : decode cJ2_getChar_3b067 33 = .ok (.iload_n 1, 1) := by decide +kernel
theorem dJ2_getChar_3b067_34 : decode cJ2_getChar_3b067 34 = .ok (.iinc 1 1, 3) := by decide +kernel
theorem dJ2_getChar_3b067_37 : decode cJ2_getChar_3b067 37 = .ok (.baload, 1) := by decide +kernel
theorem dJ2_getChar_3b067_38 : decode cJ2_getChar_3b067 38 = .ok (.sipush 255, 3) := by decide +kernel
theorem dJ2_getChar_3b067_41 : decode cJ2_getChar_3b067 41 = .ok (.iand, 1) := by decide +kernel
theorem dJ2_getChar_3b067_42 : decode cJ2_getChar_3b067 42 = .ok (.getstatic 59, 3) := by decide +kernel
theorem dJ2_getChar_3b067_45 : decode cJ2_getChar_3b067 45 = .ok (.ishl, 1) := by decide +kernel
theorem dJ2_getChar_3b067_46 : decode cJ2_getChar_3b067 46 = .ok (.aload_n 0, 1) := by decide +kernel
theorem dJ2_getChar_3b067_47 : decode cJ2_getChar_3b067 47 = .ok (.iload_n 1, 1) := by decide +kernel
theorem dJ2_getChar_3b067_48 : decode cJ2_getChar_3b067 48 = .ok (.baload, 1) := by decide +kernel
theorem dJ2_getChar_3b067_49 : decode cJ2_getChar_3b067 49 = .ok (.sipush 255, 3) := by decide +kernel
theorem dJ2_getChar_3b067_52 : decode cJ2_getChar_3b067 52 = .ok (.iand, 1) := by decide +kernel
theorem dJ2_getChar_3b067_53 : decode cJ2_getChar_3b067 53 = .ok (.getstatic 63, 3) := by decide +kernel
theorem dJ2_getChar_3b067_56 : decode cJ2_getChar_3b067 56 = .ok (.ishl, 1) := by decide +kernel
theorem dJ2_getChar_3b067_57 : decode cJ2_getChar_3b067 57 = .ok (.ior, 1) := by decide +kernel
theorem dJ2_getChar_3b067_58 : decode cJ2_getChar_3b067 58 = .ok (.i2c, 1) := by decide +kernel
theorem dJ2_getChar_3b067_59 : decode cJ2_getChar_3b067 59 = .ok (.ireturn, 1) := by decide +kernel
theorem dJ2_length_9d52b_0 : decode cJ2_length_9d52b 0 = .ok (.aload_n 0, 1) := by decide +kernel
theorem dJ2_length_9d52b_1 : decode cJ2_length_9d52b 1 = .ok (.arraylength, 1) := by decide +kernel
theorem dJ2_length_9d52b_2 : decode cJ2_length_9d52b 2 = .ok (.iconst 1, 1) := by decide +kernel
theorem dJ2_length_9d52b_3 : decode cJ2_length_9d52b 3 = .ok (.ishr, 1) := by decide +kernel
theorem dJ2_length_9d52b_4 : decode cJ2_length_9d52b 4 = .ok (.ireturn, 1) := by decide +kernel
theorem dJ2_indexOf_4cfef_0 : decode cJ2_indexOf_4cfef 0 = .ok (.iload_n 2, 1) := by decide +kernel
theorem dJ2_indexOf_4cfef_1 : decode cJ2_indexOf_4cfef 1 = .ok (.iconst 0, 1) := by decide +kernel
theorem dJ2_indexOf_4cfef_2 : decode cJ2_indexOf_4cfef 2 = .ok (.invokestatic 224, 3) := by decide +kernel
theorem dJ2_indexOf_4cfef_5 : decode cJ2_indexOf_4cfef 5 = .ok (.istore_n 2, 1) := by decide +kernel
theorem dJ2_indexOf_4cfef_6 : decode cJ2_indexOf_4cfef 6 = .ok (.iload_n 3, 1) := by decide +kernel
theorem dJ2_indexOf_4cfef_7 : decode cJ2_indexOf_4cfef 7 = .ok (.aload_n 0, 1) := by decide +kernel
theorem dJ2_indexOf_4cfef_8 : decode cJ2_indexOf_4cfef 8 = .ok (.arraylength, 1) := by decide +kernel
theorem dJ2_indexOf_4cfef_9 : decode cJ2_indexOf_4cfef 9 = .ok (.iconst 1, 1) := by decide +kernel
theorem dJ2_indexOf_4cfef_10 : decode cJ2_indexOf_4cfef 10 = .ok (.ishr, 1) := by decide +kernel
theorem dJ2_indexOf_4cfef_11 : decode cJ2_indexOf_4cfef 11 = .ok (.invokestatic 183, 3) := by decide +kernel
theorem dJ2_indexOf_4cfef_14 : decode cJ2_indexOf_4cfef 14 = .ok (.istore_n 3, 1) := by decide +kernel
theorem dJ2_indexOf_4cfef_15 : decode cJ2_indexOf_4cfef 15 = .ok (.iload_n 2, 1) := by decide +kernel
theorem dJ2_indexOf_4cfef_16 : decode cJ2_indexOf_4cfef 16 = .ok (.iload_n 3, 1) := by decide +kernel
theorem dJ2_indexOf_4cfef_17 : decode cJ2_indexOf_4cfef 17 = .ok (.if_icmp .lt 5, 3) := by decide +kernel
theorem dJ2_indexOf_4cfef_20 : decode cJ2_indexOf_4cfef 20 = .ok (.iconst (-1), 1) := by decide +kernel
theorem dJ2_indexOf_4cfef_21 : decode cJ2_indexOf_4cfef 21 = .ok (.ireturn, 1) := by decide +kernel
theorem dJ2_indexOf_4cfef_22 : decode cJ2_indexOf_4cfef 22 = .ok (.iload_n 1, 1) := by decide +kernel
theorem dJ2_indexOf_4cfef_23 : decode cJ2_indexOf_4cfef 23 = .ok (.ldc 227, 2) := by decide +kernel
theorem dJ2_indexOf_4cfef_25 : decode cJ2_indexOf_4cfef 25 = .ok (.if_icmp .ge 11, 3) := by decide +kernel
theorem dJ2_indexOf_4cfef_28 : decode cJ2_indexOf_4cfef 28 = .ok (.aload_n 0, 1) := by decide +kernel
theorem dJ2_indexOf_4cfef_29 : decode cJ2_indexOf_4cfef 29 = .ok (.iload_n 1, 1) := by decide +kernel
theorem dJ2_indexOf_4cfef_30 : decode cJ2_indexOf_4cfef 30 = .ok (.iload_n 2, 1) := by decide +kernel
theorem dJ2_indexOf_4cfef_31 : decode cJ2_indexOf_4cfef 31 = .ok (.iload_n 3, 1) := by decide +kernel
theorem dJ2_indexOf_4cfef_32 : decode cJ2_indexOf_4cfef 32 = .ok (.invokestatic 228, 3) := by decide +kernel
theorem dJ2_indexOf_4cfef_35 : decode cJ2_indexOf_4cfef 35 = .ok (.ireturn, 1) := by decide +kernel
theorem dJ2_indexOf_4cfef_36 : decode cJ2_indexOf_4cfef 36 = .ok (.aload_n 0, 1) := by decide +kernel
theorem dJ2_indexOf_4cfef_37 : decode cJ2_indexOf_4cfef 37 = .ok (.iload_n 1, 1) := by decide +kernel
theorem dJ2_indexOf_4cfef_38 : decode cJ2_indexOf_4cfef 38 = .ok (.iload_n 2, 1) := by decide +kernel
theorem dJ2_indexOf_4cfef_39 : decode cJ2_indexOf_4cfef 39 = .ok (.iload_n 3, 1) := by decide +kernel
theorem dJ2_indexOf_4cfef_40 : decode cJ2_indexOf_4cfef 40 = .ok (.invokestatic 232, 3) := by decide +kernel
theorem dJ2_indexOf_4cfef_43 : decode cJ2_indexOf_4cfef 43 = .ok (.ireturn, 1) := by decide +kernel
theorem dJ2_indexOfChar_4cfef_0 : decode cJ2_indexOfChar_4cfef 0 = .ok (.iload_n 2, 1) := by decide +kernel
theorem dJ2_indexOfChar_4cfef_1 : decode cJ2_indexOfChar_4cfef 1 = .ok (.iload_n 3, 1) := by decide +kernel
theorem dJ2_indexOfChar_4cfef_2 : decode cJ2_indexOfChar_4cfef 2 = .ok (.aload_n 0, 1) := by decide +kernel
theorem dJ2_indexOfChar_4cfef_3 : decode cJ2_indexOfChar_4cfef 3 = .ok (.invokestatic 96, 3) := by decide +kernel
theorem dJ2_indexOfChar_4cfef_6 : decode cJ2_indexOfChar_4cfef 6 = .ok (.aload_n 0, 1) := by decide +kernel
theorem dJ2_indexOfChar_4cfef_7 : decode cJ2_indexOfChar_4cfef 7 = .ok (.iload_n 1, 1) := by decide +kernel
theorem dJ2_indexOfChar_4cfef_8 : decode cJ2_indexOfChar_4cfef 8 = .ok (.iload_n 2, 1) := by decide +kernel
theorem dJ2_indexOfChar_4cfef_9 : decode cJ2_indexOfChar_4cfef 9 = .ok (.iload_n 3, 1) := by decide +kernel
theorem dJ2_indexOfChar_4cfef_10 : decode cJ2_indexOfChar_4cfef 10 = .ok (.invokestatic 244, 3) := by decide +kernel
theorem dJ2_indexOfChar_4cfef_13 : decode cJ2_indexOfChar_4cfef 13 = .ok (.ireturn, 1) := by decide +kernel
theorem dJ2_indexOfCharUnsafe_4cfef_0 : decode cJ2_indexOfCharUnsafe_4cfef 0 = .ok (.iload_n 2, 1) := by decide +kernel
theorem dJ2_indexOfCharUnsafe_4cfef_1 : decode cJ2_indexOfCharUnsafe_4cfef 1 = .ok (.istore 4, 2) := by decide +kernel
theorem dJ2_indexOfCharUnsafe_4cfef_3 : decode cJ2_indexOfCharUnsafe_4cfef 3 = .ok (.iload 4, 2) := by decide +kernel
theorem dJ2_indexOfCharUnsafe_4cfef_5 : decode cJ2_indexOfCharUnsafe_4cfef 5 = .ok (.iload_n 3, 1) := by decide +kernel
theorem dJ2_indexOfCharUnsafe_4cfef_6 : decode cJ2_indexOfCharUnsafe_4cfef 6 = .ok (.if_icmp .ge 22, 3) := by decide +kernel
theorem dJ2_indexOfCharUnsafe_4cfef_9 : decode cJ2_indexOfCharUnsafe_4cfef 9 = .ok (.aload_n 0, 1) := by decide +kernel
theorem dJ2_indexOfCharUnsafe_4cfef_10 : decode cJ2_indexOfCharUnsafe_4cfef 10 = .ok (.iload 4, 2) := by decide +kernel
theorem dJ2_indexOfCharUnsafe_4cfef_12 : decode cJ2_indexOfCharUnsafe_4cfef 12 = .ok (.invokestatic 71, 3) := by decide +kernel
theorem dJ2_indexOfCharUnsafe_4cfef_15 : decode cJ2_indexOfCharUnsafe_4cfef 15 = .ok (.iload_n 1, 1) := by decide +kernel
theorem dJ2_indexOfCharUnsafe_4cfef_16 : decode cJ2_indexOfCharUnsafe_4cfef 16 = .ok (.if_icmp .ne 6, 3) := by decide +kernel
theorem dJ2_indexOfCharUnsafe_4cfef_19 : decode cJ2_indexOfCharUnsafe_4cfef 19 = .ok (.iload 4, 2) := by decide +kernel
theorem dJ2_indexOfCharUnsafe_4cfef_21 : decode cJ2_indexOfCharUnsafe_4cfef 21 = .ok (.ireturn, 1) := by decide +kernel
theorem dJ2_indexOfCharUnsafe_4cfef_22 : decode cJ2_indexOfCharUnsafe_4cfef 22 = .ok (.iinc 4 1, 3) := by decide +kernel
theorem dJ2_indexOfCharUnsafe_4cfef_25 : decode cJ2_indexOfCharUnsafe_4cfef 25 = .ok (.goto (-22), 3) := by decide +kernel
theorem dJ2_indexOfCharUnsafe_4cfef_28 : decode cJ2_indexOfCharUnsafe_4cfef 28 = .ok (.iconst (-1), 1) := by decide +kernel
theorem dJ2_indexOfCharUnsafe_4cfef_29 : decode cJ2_indexOfCharUnsafe_4cfef 29 = .ok (.ireturn, 1) := by decide +kernel
theorem dJ2_indexOfSupplementary_4cfef_0 : decode cJ2_indexOfSupplementary_4cfef 0 = .ok (.iload_n 1, 1) := by decide +kernel
theorem dJ2_indexOfSupplementary_4cfef_1 : decode cJ2_indexOfSupplementary_4cfef 1 = .ok (.invokestatic 164, 3) := by decide +kernel
theorem dJ2_indexOfSupplementary_4cfef_4 : decode cJ2_indexOfSupplementary_4cfef 4 = .ok (.ifCond .eq 65, 3) := by decide +kernel
theorem dJ2_indexOfSupplementary_4cfef_7 : decode cJ2_indexOfSupplementary_4cfef 7 = .ok (.iload_n 1, 1) := by decide +kernel
theorem dJ2_indexOfSupplementary_4cfef_8 : decode cJ2_indexOfSupplementary_4cfef 8 = .ok (.invokestatic 157, 3) := by decide +kernel
theorem dJ2_indexOfSupplementary_4cfef_11 : decode cJ2_indexOfSupplementary_4cfef 11 = .ok (.istore 4, 2) := by decide +kernel
theorem dJ2_indexOfSupplementary_4cfef_13 : decode cJ2_indexOfSupplementary_4cfef 13 = .ok (.iload_n 1, 1) := by decide +kernel
theorem dJ2_indexOfSupplementary_4cfef_14 : decode cJ2_indexOfSupplementary_4cfef 14 = .ok (.invokestatic 161, 3) := by decide +kernel
theorem dJ2_indexOfSupplementary_4cfef_17 : decode cJ2_indexOfSupplementary_4cfef 17 = .ok (.istore 5, 2) := by decide +kernel
theorem dJ2_indexOfSupplementary_4cfef_19 : decode cJ2_indexOfSupplementary_4cfef 19 = .ok (.iload_n 2, 1) := by decide +kernel
theorem dJ2_indexOfSupplementary_4cfef_20 : decode cJ2_indexOfSupplementary_4cfef 20 = .ok (.iload_n 3, 1) := by decide +kernel
theorem dJ2_indexOfSupplementary_4cfef_21 : decode cJ2_indexOfSupplementary_4cfef 21 = .ok (.aload_n 0, 1) := by decide +kernel
theorem dJ2_indexOfSupplementary_4cfef_22 : decode cJ2_indexOfSupplementary_4cfef 22 = .ok (.invokestatic 96, 3) := by decide +kernel
theorem dJ2_indexOfSupplementary_4cfef_25 : decode cJ2_indexOfSupplementary_4cfef 25 = .ok (.iload_n 2, 1) := by decide +kernel
theorem dJ2_indexOfSupplementary_4cfef_26 : decode cJ2_indexOfSupplementary_4cfef 26 = .ok (.istore 6, 2) := by decide +kernel
theorem dJ2_indexOfSupplementary_4cfef_28 : decode cJ2_indexOfSupplementary_4cfef 28 = .ok (.iload 6, 2) := by decide +kernel
theorem dJ2_indexOfSupplementary_4cfef_30 : decode cJ2_indexOfSupplementary_4cfef 30 = .ok (.iload_n 3, 1) := by decide +kernel
theorem dJ2_indexOfSupplementary_4cfef_31 : decode cJ2_indexOfSupplementary_4cfef 31 = .ok (.iconst 1, 1) := by decide +kernel
theorem dJ2_indexOfSupplementary_4cfef_32 : decode cJ2_indexOfSupplementary_4cfef 32 = .ok (.isub, 1) := by decide +kernel
theorem dJ2_indexOfSupplementary_4cfef_33 : decode cJ2_indexOfSupplementary_4cfef 33 = .ok (.if_icmp .ge 36, 3) := by decide +kernel
theorem dJ2_indexOfSupplementary_4cfef_36 : decode cJ2_indexOfSupplementary_4cfef 36 = .ok (.aload_n 0, 1) := by decide +kernel
theorem dJ2_indexOfSupplementary_4cfef_37 : decode cJ2_indexOfSupplementary_4cfef 37 = .ok (.iload 6, 2) := by decide +kernel
theorem dJ2_indexOfSupplementary_4cfef_39 : decode cJ2_indexOfSupplementary_4cfef 39 = .ok (.invokestatic 71, 3) := by decide +kernel
theorem dJ2_indexOfSupplementary_4cfef_42 : decode cJ2_indexOfSupplementary_4cfef 42 = .ok (.iload 4, 2) := by decide +kernel
theorem dJ2_indexOfSupplementary_4cfef_44 : decode cJ2_indexOfSupplementary_4cfef 44 = .ok (.if_icmp .ne 19, 3) := by decide +kernel
theorem dJ2_indexOfSupplementary_4cfef_47 : decode cJ2_indexOfSupplementary_4cfef 47 = .ok (.aload_n 0, 1) := by decide +kernel
theorem dJ2_indexOfSupplementary_4cfef_48 : decode cJ2_indexOfSupplementary_4cfef 48 = .ok (.iload 6, 2) := by decide +kernel
theorem dJ2_indexOfSupplementary_4cfef_50 : decode cJ2_indexOfSupplementary_4cfef 50 = .ok (.iconst 1, 1) := by decide +kernel
theorem dJ2_indexOfSupplementary_4cfef_51 : decode cJ2_indexOfSupplementary_4cfef 51 = .ok (.iadd, 1) := by decide +kernel
theorem dJ2_indexOfSupplementary_4cfef_52 : decode cJ2_indexOfSupplementary_4cfef 52 = .ok (.invokestatic 71, 3) := by decide +kernel
theorem dJ2_indexOfSupplementary_4cfef_55 : decode cJ2_indexOfSupplementary_4cfef 55 = .ok (.iload 5, 2) := by decide +kernel
theorem dJ2_indexOfSupplementary_4cfef_57 : decode cJ2_indexOfSupplementary_4cfef 57 = .ok (.if_icmp .ne 6, 3) := by decide +kernel
theorem dJ2_indexOfSupplementary_4cfef_60 : decode cJ2_indexOfSupplementary_4cfef 60 = .ok (.iload 6, 2) := by decide +kernel
theorem dJ2_indexOfSupplementary_4cfef_62 : decode cJ2_indexOfSupplementary_4cfef 62 = .ok (.ireturn, 1) := by decide +kernel
theorem dJ2_indexOfSupplementary_4cfef_63 : decode cJ2_indexOfSupplementary_4cfef 63 = .ok (.iinc 6 1, 3) := by decide +kernel
theorem dJ2_indexOfSupplementary_4cfef_66 : decode cJ2_indexOfSupplementary_4cfef 66 = .ok (.goto (-38), 3) := by decide +kernel
theorem dJ2_indexOfSupplementary_4cfef_69 : decode cJ2_indexOfSupplementary_4cfef 69 = .ok (.iconst (-1), 1) := by decide +kernel
theorem dJ2_indexOfSupplementary_4cfef_70 : decode cJ2_indexOfSupplementary_4cfef 70 = .ok (.ireturn, 1) := by decide +kernel
theorem dJ2_checkBoundsBeginEnd_d044e_0 : decode cJ2_checkBoundsBeginEnd_d044e 0 = .ok (.iload_n 0, 1) := by decide +kernel
theorem dJ2_checkBoundsBeginEnd_d044e_1 : decode cJ2_checkBoundsBeginEnd_d044e 1 = .ok (.iload_n 1, 1) := by decide +kernel
theorem dJ2_checkBoundsBeginEnd_d044e_2 : decode cJ2_checkBoundsBeginEnd_d044e 2 = .ok (.aload_n 2, 1) := by decide +kernel
theorem dJ2_checkBoundsBeginEnd_d044e_3 : decode cJ2_checkBoundsBeginEnd_d044e 3 = .ok (.invokestatic 48, 3) := by decide +kernel
theorem dJ2_checkBoundsBeginEnd_d044e_6 : decode cJ2_checkBoundsBeginEnd_d044e 6 = .ok (.invokestatic 241, 3) := by decide +kernel
theorem dJ2_checkBoundsBeginEnd_d044e_9 : decode cJ2_checkBoundsBeginEnd_d044e 9 = .ok (.return_, 1) := by decide +kernel
theorem dJxa1e45_init_da8c8_0 : decode cJxa1e45_init_da8c8 0 = .ok (.aload_n 0, 1) := by decide +kernel
theorem dJxa1e45_init_da8c8_1 : decode cJxa1e45_init_da8c8 1 = .ok (.invokespecial 1, 3) := by decide +kernel
theorem dJxa1e45_init_da8c8_4 : decode cJxa1e45_init_da8c8 4 = .ok (.return_, 1) := by decide +kernel
theorem dJxc12de_init_da8c8_0 : decode cJxc12de_init_da8c8 0 = .ok (.aload_n 0, 1) := by decide +kernel
theorem dJxc12de_init_da8c8_1 : decode cJxc12de_init_da8c8 1 = .ok (.invokespecial 1, 3) := by decide +kernel
theorem dJxc12de_init_da8c8_4 : decode cJxc12de_init_da8c8 4 = .ok (.aload_n 0, 1) := by decide +kernel
theorem dJxc12de_init_da8c8_5 : decode cJxc12de_init_da8c8 5 = .ok (.iconst 0, 1) := by decide +kernel
theorem dJxc12de_init_da8c8_6 : decode cJxc12de_init_da8c8 6 = .ok (.putfield 7, 3) := by decide +kernel
theorem dJxc12de_init_da8c8_9 : decode cJxc12de_init_da8c8 9 = .ok (.return_, 1) := by decide +kernel
theorem dJx4a65c_init_da8c8_0 : decode cJx4a65c_init_da8c8 0 = .ok (.aload_n 0, 1) := by decide +kernel
theorem dJx4a65c_init_da8c8_1 : decode cJx4a65c_init_da8c8 1 = .ok (.invokespecial 1, 3) := by decide +kernel
theorem dJx4a65c_init_da8c8_4 : decode cJx4a65c_init_da8c8 4 = .ok (.aload_n 0, 1) := by decide +kernel
theorem dJx4a65c_init_da8c8_5 : decode cJx4a65c_init_da8c8 5 = .ok (.getstatic 39, 3) := by decide +kernel
theorem dJx4a65c_init_da8c8_8 : decode cJx4a65c_init_da8c8 8 = .ok (.putfield 9, 3) := by decide +kernel
theorem dJx4a65c_init_da8c8_11 : decode cJx4a65c_init_da8c8 11 = .ok (.return_, 1) := by decide +kernel
theorem dJx4a65c_grow_92f84_0 : decode cJx4a65c_grow_92f84 0 = .ok (.aload_n 0, 1) := by decide +kernel
theorem dJx4a65c_grow_92f84_1 : decode cJx4a65c_grow_92f84 1 = .ok (.getfield 9, 3) := by decide +kernel
theorem dJx4a65c_grow_92f84_4 : decode cJx4a65c_grow_92f84 4 = .ok (.arraylength, 1) := by decide +kernel
theorem dJx4a65c_grow_92f84_5 : decode cJx4a65c_grow_92f84 5 = .ok (.istore_n 2, 1) := by decide +kernel
theorem dJx4a65c_grow_92f84_6 : decode cJx4a65c_grow_92f84 6 = .ok (.iload_n 2, 1) := by decide +kernel
theorem dJx4a65c_grow_92f84_7 : decode cJx4a65c_grow_92f84 7 = .ok (.ifCond .gt 13, 3) := by decide +kernel
theorem dJx4a65c_grow_92f84_10 : decode cJx4a65c_grow_92f84 10 = .ok (.aload_n 0, 1) := by decide +kernel
theorem dJx4a65c_grow_92f84_11 : decode cJx4a65c_grow_92f84 11 = .ok (.getfield 9, 3) := by decide +kernel
theorem dJx4a65c_grow_92f84_14 : decode cJx4a65c_grow_92f84 14 = .ok (.getstatic 39, 3) := by decide +kernel
theorem dJx4a65c_grow_92f84_17 : decode cJx4a65c_grow_92f84 17 = .ok (.if_acmp .eq 28, 3) := by decide +kernel
theorem dJx4a65c_grow_92f84_20 : decode cJx4a65c_grow_92f84 20 = .ok (.iload_n 2, 1) := by decide +kernel
theorem dJx4a65c_grow_92f84_21 : decode cJx4a65c_grow_92f84 21 = .ok (.iload_n 1, 1) := by decide +kernel
theorem dJx4a65c_grow_92f84_22 : decode cJx4a65c_grow_92f84 22 = .ok (.iload_n 2, 1) := by decide +kernel
theorem dJx4a65c_grow_92f84_23 : decode cJx4a65c_grow_92f84 23 = .ok (.isub, 1) := by decide +kernel
theorem dJx4a65c_grow_92f84_24 : decode cJx4a65c_grow_92f84 24 = .ok (.iload_n 2, 1) := by decide +kernel
theorem dJx4a65c_grow_92f84_25 : decode cJx4a65c_grow_92f84 25 = .ok (.iconst 1, 1) := by decide +kernel
theorem dJx4a65c_grow_92f84_26 : decode cJx4a65c_grow_92f84 26 = .ok (.ishr, 1) := by decide +kernel
theorem dJx4a65c_grow_92f84_27 : decode cJx4a65c_grow_92f84 27 = .ok (.invokestatic 73, 3) := by decide +kernel
theorem dJx4a65c_grow_92f84_30 : decode cJx4a65c_grow_92f84 30 = .ok (.istore_n 3, 1) := by decide +kernel
theorem dJx4a65c_grow_92f84_31 : decode cJx4a65c_grow_92f84 31 = .ok (.aload_n 0, 1) := by decide +kernel
theorem dJx4a65c_grow_92f84_32 : decode cJx4a65c_grow_92f84 32 = .ok (.aload_n 0, 1) := by decide +kernel
theorem dJx4a65c_grow_92f84_33 : decode cJx4a65c_grow_92f84 33 = .ok (.getfield 9, 3) := by decide +kernel
theorem dJx4a65c_grow_92f84_36 : decode cJx4a65c_grow_92f84 36 = .ok (.iload_n 3, 1) := by decide +kernel
theorem dJx4a65c_grow_92f84_37 : decode cJx4a65c_grow_92f84 37 = .ok (.invokestatic 66, 3) := by decide +kernel
theorem dJx4a65c_grow_92f84_40 : decode cJx4a65c_grow_92f84 40 = .ok (.dup_x1, 1) := by decide +kernel
theorem dJx4a65c_grow_92f84_41 : decode cJx4a65c_grow_92f84 41 = .ok (.putfield 9, 3) := by decide +kernel
theorem dJx4a65c_grow_92f84_44 : decode cJx4a65c_grow_92f84 44 = .ok (.areturn, 1) := by decide +kernel
theorem dJx4a65c_grow_92f84_45 : decode cJx4a65c_grow_92f84 45 = .ok (.aload_n 0, 1) := by decide +kernel
theorem dJx4a65c_grow_92f84_46 : decode cJx4a65c_grow_92f84 46 = .ok (.bipush 10, 2) := by decide +kernel
theorem dJx4a65c_grow_92f84_48 : decode cJx4a65c_grow_92f84 48 = .ok (.iload_n 1, 1) := by decide +kernel
theorem dJx4a65c_grow_92f84_49 : decode cJx4a65c_grow_92f84 49 = .ok (.invokestatic 79, 3) := by decide +kernel
theorem dJx4a65c_grow_92f84_52 : decode cJx4a65c_grow_92f84 52 = .ok (.anewarray 7, 3) := by decide +kernel
theorem dJx4a65c_grow_92f84_55 : decode cJx4a65c_grow_92f84 55 = .ok (.dup_x1, 1) := by decide +kernel
theorem dJx4a65c_grow_92f84_56 : decode cJx4a65c_grow_92f84 56 = .ok (.putfield 9, 3) := by decide +kernel
theorem dJx4a65c_grow_92f84_59 : decode cJx4a65c_grow_92f84 59 = .ok (.areturn, 1) := by decide +kernel
theorem dJx4a65c_grow_d5877_0 : decode cJx4a65c_grow_d5877 0 = .ok (.aload_n 0, 1) := by decide +kernel
theorem dJx4a65c_grow_d5877_1 : decode cJx4a65c_grow_d5877 1 = .ok (.aload_n 0, 1) := by decide +kernel
theorem dJx4a65c_grow_d5877_2 : decode cJx4a65c_grow_d5877 2 = .ok (.getfield 48, 3) := by decide +kernel
theorem dJx4a65c_grow_d5877_5 : decode cJx4a65c_grow_d5877 5 = .ok (.iconst 1, 1) := by decide +kernel
theorem dJx4a65c_grow_d5877_6 : decode cJx4a65c_grow_d5877 6 = .ok (.iadd, 1) := by decide +kernel
theorem dJx4a65c_grow_d5877_7 : decode cJx4a65c_grow_d5877 7 = .ok (.invokevirtual 69, 3) := by decide +kernel
theorem dJx4a65c_grow_d5877_10 : decode cJx4a65c_grow_d5877 10 = .ok (.areturn, 1) := by decide +kernel
theorem dJx4a65c_size_8abf5_0 : decode cJx4a65c_size_8abf5 0 = .ok (.aload_n 0, 1) := by decide +kernel
theorem dJx4a65c_size_8abf5_1 : decode cJx4a65c_size_8abf5 1 = .ok (.getfield 48, 3) := by decide +kernel
theorem dJx4a65c_size_8abf5_4 : decode cJx4a65c_size_8abf5 4 = .ok (.ireturn, 1) := by decide +kernel
theorem dJx4a65c_elementData_915e3_0 : decode cJx4a65c_elementData_915e3 0 = .ok (.aload_n 0, 1) := by decide +kernel
theorem dJx4a65c_elementData_915e3_1 : decode cJx4a65c_elementData_915e3 1 = .ok (.getfield 9, 3) := by decide +kernel
theorem dJx4a65c_elementData_915e3_4 : decode cJx4a65c_elementData_915e3 4 = .ok (.iload_n 1, 1) := by decide +kernel
theorem dJx4a65c_elementData_915e3_5 : decode cJx4a65c_elementData_915e3 5 = .ok (.aaload, 1) := by decide +kernel
theorem dJx4a65c_elementData_915e3_6 : decode cJx4a65c_elementData_915e3 6 = .ok (.areturn, 1) := by decide +kernel
theorem dJx4a65c_get_915e3_0 : decode cJx4a65c_get_915e3 0 = .ok (.iload_n 1, 1) := by decide +kernel
theorem dJx4a65c_get_915e3_1 : decode cJx4a65c_get_915e3 1 = .ok (.aload_n 0, 1) := by decide +kernel
theorem dJx4a65c_get_915e3_2 : decode cJx4a65c_get_915e3 2 = .ok (.getfield 48, 3) := by decide +kernel
theorem dJx4a65c_get_915e3_5 : decode cJx4a65c_get_915e3 5 = .ok (.invokestatic 118, 3) := by decide +kernel
theorem dJx4a65c_get_915e3_8 : decode cJx4a65c_get_915e3 8 = .ok (.pop, 1) := by decide +kernel
theorem dJx4a65c_get_915e3_9 : decode cJx4a65c_get_915e3 9 = .ok (.aload_n 0, 1) := by decide +kernel
theorem dJx4a65c_get_915e3_10 : decode cJx4a65c_get_915e3 10 = .ok (.iload_n 1, 1) := by decide +kernel
theorem dJx4a65c_get_915e3_11 : decode cJx4a65c_get_915e3 11 = .ok (.invokevirtual 123, 3) := by decide +kernel
theorem dJx4a65c_get_915e3_14 : decode cJx4a65c_get_915e3 14 = .ok (.areturn, 1) := by decide +kernel
theorem dJx4a65c_add_72be8_0 : decode cJx4a65c_add_72be8 0 = .ok (.iload_n 3, 1) := by decide +kernel
theorem dJx4a65c_add_72be8_1 : decode cJx4a65c_add_72be8 1 = .ok (.aload_n 2, 1) := by decide +kernel
theorem dJx4a65c_add_72be8_2 : decode cJx4a65c_add_72be8 2 = .ok (.arraylength, 1) := by decide +kernel
theorem dJx4a65c_add_72be8_3 : decode cJx4a65c_add_72be8 3 = .ok (.if_icmp .ne 8, 3) := by decide +kernel
theorem dJx4a65c_add_72be8_6 : decode cJx4a65c_add_72be8 6 = .ok (.aload_n 0, 1) := by decide +kernel
theorem dJx4a65c_add_72be8_7 : decode cJx4a65c_add_72be8 7 = .ok (.invokevirtual 129, 3) := by decide +kernel
theorem dJx4a65c_add_72be8_10 : decode cJx4a65c_add_72be8 10 = .ok (.astore_n 2, 1) := by decide +kernel
theorem dJx4a65c_add_72be8_11 : decode cJx4a65c_add_72be8 11 = .ok (.aload_n 2, 1) := by decide +kernel
theorem dJx4a65c_add_72be8_12 : decode cJx4a65c_add_72be8 12 = .ok (.iload_n 3, 1) := by decide +kernel
theorem dJx4a65c_add_72be8_13 : decode cJx4a65c_add_72be8 13 = .ok (.aload_n 1, 1) := by decide +kernel
theorem dJx4a65c_add_72be8_14 : decode cJx4a65c_add_72be8 14 = .ok (.aastore, 1) := by decide +kernel
theorem dJx4a65c_add_72be8_15 : decode cJx4a65c_add_72be8 15 = .ok (.aload_n 0, 1) := by decide +kernel
theorem dJx4a65c_add_72be8_16 : decode cJx4a65c_add_72be8 16 = .ok (.iload_n 3, 1) := by decide +kernel
theorem dJx4a65c_add_72be8_17 : decode cJx4a65c_add_72be8 17 = .ok (.iconst 1, 1) := by decide +kernel
theorem dJx4a65c_add_72be8_18 : decode cJx4a65c_add_72be8 18 = .ok (.iadd, 1) := by decide +kernel
theorem dJx4a65c_add_72be8_19 : decode cJx4a65c_add_72be8 19 = .ok (.putfield 48, 3) := by decide +kernel
theorem dJx4a65c_add_72be8_22 : decode cJx4a65c_add_72be8 22 = .ok (.return_, 1) := by decide +kernel
theorem dJx4a65c_add_9ea2d_0 : decode cJx4a65c_add_9ea2d 0 = .ok (.aload_n 0, 1) := by decide +kernel
theorem dJx4a65c_add_9ea2d_1 : decode cJx4a65c_add_9ea2d 1 = .ok (.dup, 1) := by decide +kernel
theorem dJx4a65c_add_9ea2d_2 : decode cJx4a65c_add_9ea2d 2 = .ok (.getfield 63, 3) := by decide +kernel
theorem dJx4a65c_add_9ea2d_5 : decode cJx4a65c_add_9ea2d 5 = .ok (.iconst 1, 1) := by decide +kernel
theorem dJx4a65c_add_9ea2d_6 : decode cJx4a65c_add_9ea2d 6 = .ok (.iadd, 1) := by decide +kernel
theorem dJx4a65c_add_9ea2d_7 : decode cJx4a65c_add_9ea2d 7 = .ok (.putfield 63, 3) := by decide +kernel
theorem dJx4a65c_add_9ea2d_10 : decode cJx4a65c_add_9ea2d 10 = .ok (.aload_n 0, 1) := by decide +kernel
theorem dJx4a65c_add_9ea2d_11 : decode cJx4a65c_add_9ea2d 11 = .ok (.aload_n 1, 1) := by decide +kernel
theorem dJx4a65c_add_9ea2d_12 : decode cJx4a65c_add_9ea2d 12 = .ok (.aload_n 0, 1) := by decide +kernel
theorem dJx4a65c_add_9ea2d_13 : decode cJx4a65c_add_9ea2d 13 = .ok (.getfield 9, 3) := by decide +kernel
theorem dJx4a65c_add_9ea2d_16 : decode cJx4a65c_add_9ea2d 16 = .ok (.aload_n 0, 1) := by decide +kernel
theorem dJx4a65c_add_9ea2d_17 : decode cJx4a65c_add_9ea2d 17 = .ok (.getfield 48, 3) := by decide +kernel
theorem dJx4a65c_add_9ea2d_20 : decode cJx4a65c_add_9ea2d 20 = .ok (.invokevirtual 131, 3) := by decide +kernel
theorem dJx4a65c_add_9ea2d_23 : decode cJx4a65c_add_9ea2d 23 = .ok (.iconst 1, 1) := by decide +kernel
theorem dJx4a65c_add_9ea2d_24 : decode cJx4a65c_add_9ea2d 24 = .ok (.ireturn, 1) := by decide +kernel
theorem dJ7_copyOf_1904c_0 : decode cJ7_copyOf_1904c 0 = .ok (.aload_n 0, 1) := by decide +kernel
theorem dJ7_copyOf_1904c_1 : decode cJ7_copyOf_1904c 1 = .ok (.iload_n 1, 1) := by decide +kernel
theorem dJ7_copyOf_1904c_2 : decode cJ7_copyOf_1904c 2 = .ok (.aload_n 0, 1) := by decide +kernel
theorem dJ7_copyOf_1904c_3 : decode cJ7_copyOf_1904c 3 = .ok (.invokevirtual 86, 3) := by decide +kernel
theorem dJ7_copyOf_1904c_6 : decode cJ7_copyOf_1904c 6 = .ok (.invokestatic 300, 3) := by decide +kernel
theorem dJ7_copyOf_1904c_9 : decode cJ7_copyOf_1904c 9 = .ok (.areturn, 1) := by decide +kernel
theorem dJ7_copyOf_6403c_0 : decode cJ7_copyOf_6403c 0 = .ok (.aload_n 2, 1) := by decide +kernel
theorem dJ7_copyOf_6403c_1 : decode cJ7_copyOf_6403c 1 = .ok (.ldc 110, 2) := by decide +kernel
theorem dJ7_copyOf_6403c_3 : decode cJ7_copyOf_6403c 3 = .ok (.if_acmp .ne 10, 3) := by decide +kernel
theorem dJ7_copyOf_6403c_6 : decode cJ7_copyOf_6403c 6 = .ok (.iload_n 1, 1) := by decide +kernel
theorem dJ7_copyOf_6403c_7 : decode cJ7_copyOf_6403c 7 = .ok (.anewarray 2, 3) := by decide +kernel
theorem dJ7_copyOf_6403c_10 : decode cJ7_copyOf_6403c 10 = .ok (.goto 14, 3) := by decide +kernel
theorem dJ7_copyOf_6403c_13 : decode cJ7_copyOf_6403c 13 = .ok (.aload_n 2, 1) := by decide +kernel
theorem dJ7_copyOf_6403c_14 : decode cJ7_copyOf_6403c 14 = .ok (.invokevirtual 90, 3) := by decide +kernel
theorem dJ7_copyOf_6403c_17 : decode cJ7_copyOf_6403c 17 = .ok (.iload_n 1, 1) := by decide +kernel
theorem dJ7_copyOf_6403c_18 : decode cJ7_copyOf_6403c 18 = .ok (.invokestatic 95, 3) := by decide +kernel
theorem dJ7_copyOf_6403c_21 : decode cJ7_copyOf_6403c 21 = .ok (.checkcast 110, 3) := by decide +kernel
theorem dJ7_copyOf_6403c_24 : decode cJ7_copyOf_6403c 24 = .ok (.astore_n 3, 1) := by decide +kernel
theorem dJ7_copyOf_6403c_25 : decode cJ7_copyOf_6403c 25 = .ok (.aload_n 0, 1) := by decide +kernel
theorem dJ7_copyOf_6403c_26 : decode cJ7_copyOf_6403c 26 = .ok (.iconst 0, 1) := by decide +kernel
theorem dJ7_copyOf_6403c_27 : decode cJ7_copyOf_6403c 27 = .ok (.aload_n 3, 1) := by decide +kernel
theorem dJ7_copyOf_6403c_28 : decode cJ7_copyOf_6403c 28 = .ok (.iconst 0, 1) := by decide +kernel
theorem dJ7_copyOf_6403c_29 : decode cJ7_copyOf_6403c 29 = .ok (.aload_n 0, 1) := by decide +kernel
theorem dJ7_copyOf_6403c_30 : decode cJ7_copyOf_6403c 30 = .ok (.arraylength, 1) := by decide +kernel
theorem dJ7_copyOf_6403c_31 : decode cJ7_copyOf_6403c 31 = .ok (.iload_n 1, 1) := by decide +kernel
theorem dJ7_copyOf_6403c_32 : decode cJ7_copyOf_6403c 32 = .ok (.invokestatic 304, 3) := by decide +kernel
theorem dJ7_copyOf_6403c_35 : decode cJ7_copyOf_6403c 35 = .ok (.invokestatic 150, 3) := by decide +kernel
theorem dJ7_copyOf_6403c_38 : decode cJ7_copyOf_6403c 38 = .ok (.aload_n 3, 1) := by decide +kernel
theorem dJ7_copyOf_6403c_39 : decode cJ7_copyOf_6403c 39 = .ok (.areturn, 1) := by decide +kernel
theorem dJ15_checkIndex_7cf53_0 : decode cJ15_checkIndex_7cf53 0 = .ok (.iload_n 0, 1) := by decide +kernel
theorem dJ15_checkIndex_7cf53_1 : decode cJ15_checkIndex_7cf53 1 = .ok (.iload_n 1, 1) := by decide +kernel
theorem dJ15_checkIndex_7cf53_2 : decode cJ15_checkIndex_7cf53 2 = .ok (.aconst_null, 1) := by decide +kernel
theorem dJ15_checkIndex_7cf53_3 : decode cJ15_checkIndex_7cf53 3 = .ok (.invokestatic 105, 3) := by decide +kernel
theorem dJ15_checkIndex_7cf53_6 : decode cJ15_checkIndex_7cf53 6 = .ok (.ireturn, 1) := by decide +kernel
theorem dJ8_newLength_cabcc_0 : decode cJ8_newLength_cabcc 0 = .ok (.iload_n 0, 1) := by decide +kernel
theorem dJ8_newLength_cabcc_1 : decode cJ8_newLength_cabcc 1 = .ok (.iload_n 1, 1) := by decide +kernel
theorem dJ8_newLength_cabcc_2 : decode cJ8_newLength_cabcc 2 = .ok (.iload_n 2, 1) := by decide +kernel
theorem dJ8_newLength_cabcc_3 : decode cJ8_newLength_cabcc 3 = .ok (.invokestatic 194, 3) := by decide +kernel
theorem dJ8_newLength_cabcc_6 : decode cJ8_newLength_cabcc 6 = .ok (.iadd, 1) := by decide +kernel
theorem dJ8_newLength_cabcc_7 : decode cJ8_newLength_cabcc 7 = .ok (.istore_n 3, 1) := by decide +kernel
theorem dJ8_newLength_cabcc_8 : decode cJ8_newLength_cabcc 8 = .ok (.iconst 0, 1) := by decide +kernel
theorem dJ8_newLength_cabcc_9 : decode cJ8_newLength_cabcc 9 = .ok (.iload_n 3, 1) := by decide +kernel
theorem dJ8_newLength_cabcc_10 : decode cJ8_newLength_cabcc 10 = .ok (.if_icmp .ge 11, 3) := by decide +kernel
theorem dJ8_newLength_cabcc_13 : decode cJ8_newLength_cabcc 13 = .ok (.iload_n 3, 1) := by decide +kernel
theorem dJ8_newLength_cabcc_14 : decode cJ8_newLength_cabcc 14 = .ok (.ldc 200, 2) := by decide +kernel
theorem dJ8_newLength_cabcc_16 : decode cJ8_newLength_cabcc 16 = .ok (.if_icmp .gt 5, 3) := by decide +kernel
theorem dJ8_newLength_cabcc_19 : decode cJ8_newLength_cabcc 19 = .ok (.iload_n 3, 1) := by decide +kernel
theorem dJ8_newLength_cabcc_20 : decode cJ8_newLength_cabcc 20 = .ok (.ireturn, 1) := by decide +kernel
theorem dJ8_newLength_cabcc_21 : decode cJ8_newLength_cabcc 21 = .ok (.iload_n 0, 1) := by decide +kernel
theorem dJ8_newLength_cabcc_22 : decode cJ8_newLength_cabcc 22 = .ok (.iload_n 1, 1) := by decide +kernel
theorem dJ8_newLength_cabcc_23 : decode cJ8_newLength_cabcc 23 = .ok (.invokestatic 201, 3) := by decide +kernel
theorem dJ8_newLength_cabcc_26 : decode cJ8_newLength_cabcc 26 = .ok (.ireturn, 1) := by decide +kernel
theorem dJ8_hugeLength_7cf53_0 : decode cJ8_hugeLength_7cf53 0 = .ok (.iload_n 0, 1) := by decide +kernel
theorem dJ8_hugeLength_7cf53_1 : decode cJ8_hugeLength_7cf53 1 = .ok (.iload_n 1, 1) := by decide +kernel
theorem dJ8_hugeLength_7cf53_2 : decode cJ8_hugeLength_7cf53 2 = .ok (.iadd, 1) := by decide +kernel
theorem dJ8_hugeLength_7cf53_3 : decode cJ8_hugeLength_7cf53 3 = .ok (.istore_n 2, 1) := by decide +kernel
theorem dJ8_hugeLength_7cf53_4 : decode cJ8_hugeLength_7cf53 4 = .ok (.iload_n 2, 1) := by decide +kernel
theorem dJ8_hugeLength_7cf53_5 : decode cJ8_hugeLength_7cf53 5 = .ok (.ifCond .ge 44, 3) := by decide +kernel
theorem dJ8_hugeLength_7cf53_8 : decode cJ8_hugeLength_7cf53 8 = .ok (.new 204, 3) := by decide +kernel
theorem dJ8_hugeLength_7cf53_11 : decode cJ8_hugeLength_7cf53 11 = .ok (.dup, 1) := by decide +kernel
theorem dJ8_hugeLength_7cf53_12 : decode cJ8_hugeLength_7cf53 12 = .ok (.new 89, 3) := by decide +kernel
theorem dJ8_hugeLength_7cf53_15 : decode cJ8_hugeLength_7cf53 15 = .ok (.dup, 1) := by decide +kernel
theorem dJ8_hugeLength_7cf53_16 : decode cJ8_hugeLength_7cf53 16 = .ok (.invokespecial 91, 3) := by decide +kernel
theorem dJ8_hugeLength_7cf53_19 : decode cJ8_hugeLength_7cf53 19 = .ok (.ldc 206, 2) := by decide +kernel
theorem dJ8_hugeLength_7cf53_21 : decode cJ8_hugeLength_7cf53 21 = .ok (.invokevirtual 94, 3) := by decide +kernel
theorem dJ8_hugeLength_7cf53_24 : decode cJ8_hugeLength_7cf53 24 = .ok (.iload_n 0, 1) := by decide +kernel
theorem dJ8_hugeLength_7cf53_25 : decode cJ8_hugeLength_7cf53 25 = .ok (.invokevirtual 98, 3) := by decide +kernel
theorem dJ8_hugeLength_7cf53_28 : decode cJ8_hugeLength_7cf53 28 = .ok (.ldc 208, 2) := by decide +kernel
theorem dJ8_hugeLength_7cf53_30 : decode cJ8_hugeLength_7cf53 30 = .ok (.invokevirtual 94, 3) := by decide +kernel
theorem dJ8_hugeLength_7cf53_33 : decode cJ8_hugeLength_7cf53 33 = .ok (.iload_n 1, 1) := by decide +kernel
theorem dJ8_hugeLength_7cf53_34 : decode cJ8_hugeLength_7cf53 34 = .ok (.invokevirtual 98, 3) := by decide +kernel
theorem dJ8_hugeLength_7cf53_37 : decode cJ8_hugeLength_7cf53 37 = .ok (.ldc 210, 2) := by decide +kernel
theorem dJ8_hugeLength_7cf53_39 : decode cJ8_hugeLength_7cf53 39 = .ok (.invokevirtual 94, 3) := by decide +kernel
theorem dJ8_hugeLength_7cf53_42 : decode cJ8_hugeLength_7cf53 42 = .ok (.invokevirtual 101, 3) := by decide +kernel
theorem dJ8_hugeLength_7cf53_45 : decode cJ8_hugeLength_7cf53 45 = .ok (.invokespecial 212, 3) := by decide +kernel
theorem dJ8_hugeLength_7cf53_48 : decode cJ8_hugeLength_7cf53 48 = .ok (.athrow, 1) := by decide +kernel
theorem dJ8_hugeLength_7cf53_49 : decode cJ8_hugeLength_7cf53 49 = .ok (.iload_n 2, 1) := by decide +kernel
theorem dJ8_hugeLength_7cf53_50 : decode cJ8_hugeLength_7cf53 50 = .ok (.ldc 200, 2) := by decide +kernel
theorem dJ8_hugeLength_7cf53_52 : decode cJ8_hugeLength_7cf53 52 = .ok (.if_icmp .gt 6, 3) := by decide +kernel
theorem dJ8_hugeLength_7cf53_55 : decode cJ8_hugeLength_7cf53 55 = .ok (.ldc 200, 2) := by decide +kernel
theorem dJ8_hugeLength_7cf53_57 : decode cJ8_hugeLength_7cf53 57 = .ok (.ireturn, 1) := by decide +kernel
theorem dJ8_hugeLength_7cf53_58 : decode cJ8_hugeLength_7cf53 58 = .ok (.iload_n 2, 1) := by decide +kernel
theorem dJ8_hugeLength_7cf53_59 : decode cJ8_hugeLength_7cf53 59 = .ok (.ireturn, 1) := by decide +kernel
theorem dJ3_checkIndex_8e157_0 : decode cJ3_checkIndex_8e157 0 = .ok (.iload_n 0, 1) := by decide +kernel
theorem dJ3_checkIndex_8e157_1 : decode cJ3_checkIndex_8e157 1 = .ok (.ifCond .lt 8, 3) := by decide +kernel
theorem dJ3_checkIndex_8e157_4 : decode cJ3_checkIndex_8e157 4 = .ok (.iload_n 0, 1) := by decide +kernel
theorem dJ3_checkIndex_8e157_5 : decode cJ3_checkIndex_8e157 5 = .ok (.iload_n 1, 1) := by decide +kernel
theorem dJ3_checkIndex_8e157_6 : decode cJ3_checkIndex_8e157 6 = .ok (.if_icmp .lt 10, 3) := by decide +kernel
theorem dJ3_checkIndex_8e157_9 : decode cJ3_checkIndex_8e157 9 = .ok (.aload_n 2, 1) := by decide +kernel
theorem dJ3_checkIndex_8e157_10 : decode cJ3_checkIndex_8e157 10 = .ok (.iload_n 0, 1) := by decide +kernel
theorem dJ3_checkIndex_8e157_11 : decode cJ3_checkIndex_8e157 11 = .ok (.iload_n 1, 1) := by decide +kernel
theorem dJ3_checkIndex_8e157_12 : decode cJ3_checkIndex_8e157 12 = .ok (.invokestatic 95, 3) := by decide +kernel
theorem dJ3_checkIndex_8e157_15 : decode cJ3_checkIndex_8e157 15 = .ok (.athrow, 1) := by decide +kernel
theorem dJ3_checkIndex_8e157_16 : decode cJ3_checkIndex_8e157 16 = .ok (.iload_n 0, 1) := by decide +kernel
theorem dJ3_checkIndex_8e157_17 : decode cJ3_checkIndex_8e157 17 = .ok (.ireturn, 1) := by decide +kernel
theorem dJ3_checkFromToIndex_8c36e_0 : decode cJ3_checkFromToIndex_8c36e 0 = .ok (.iload_n 0, 1) := by decide +kernel
theorem dJ3_checkFromToIndex_8c36e_1 : decode cJ3_checkFromToIndex_8c36e 1 = .ok (.ifCond .lt 13, 3) := by decide +kernel
theorem dJ3_checkFromToIndex_8c36e_4 : decode cJ3_checkFromToIndex_8c36e 4 = .ok (.iload_n 0, 1) := by decide +kernel
theorem dJ3_checkFromToIndex_8c36e_5 : decode cJ3_checkFromToIndex_8c36e 5 = .ok (.iload_n 1, 1) := by decide +kernel
theorem dJ3_checkFromToIndex_8c36e_6 : decode cJ3_checkFromToIndex_8c36e 6 = .ok (.if_icmp .gt 8, 3) := by decide +kernel
theorem dJ3_checkFromToIndex_8c36e_9 : decode cJ3_checkFromToIndex_8c36e 9 = .ok (.iload_n 1, 1) := by decide +kernel
theorem dJ3_checkFromToIndex_8c36e_10 : decode cJ3_checkFromToIndex_8c36e 10 = .ok (.iload_n 2, 1) := by decide +kernel
theorem dJ3_checkFromToIndex_8c36e_11 : decode cJ3_checkFromToIndex_8c36e 11 = .ok (.if_icmp .le 11, 3) := by decide +kernel
theorem dJ3_checkFromToIndex_8c36e_14 : decode cJ3_checkFromToIndex_8c36e 14 = .ok (.aload_n 3, 1) := by decide +kernel
theorem dJ3_checkFromToIndex_8c36e_15 : decode cJ3_checkFromToIndex_8c36e 15 = .ok (.iload_n 0, 1) := by decide +kernel
theorem dJ3_checkFromToIndex_8c36e_16 : decode cJ3_checkFromToIndex_8c36e 16 = .ok (.iload_n 1, 1) := by decide +kernel
theorem dJ3_checkFromToIndex_8c36e_17 : decode cJ3_checkFromToIndex_8c36e 17 = .ok (.iload_n 2, 1) := by decide +kernel
theorem dJ3_checkFromToIndex_8c36e_18 : decode cJ3_checkFromToIndex_8c36e 18 = .ok (.invokestatic 99, 3) := by decide +kernel
theorem dJ3_checkFromToIndex_8c36e_21 : decode cJ3_checkFromToIndex_8c36e 21 = .ok (.athrow, 1) := by decide +kernel
theorem dJ3_checkFromToIndex_8c36e_22 : decode cJ3_checkFromToIndex_8c36e 22 = .ok (.iload_n 0, 1) := by decide +kernel
theorem dJ3_checkFromToIndex_8c36e_23 : decode cJ3_checkFromToIndex_8c36e 23 = .ok (.ireturn, 1) := by decide +kernel
abbrev vwCl : List vw_C := [(RJx4a65c, TJx4a65c, 3), (RX0, TX0, 16), (RX1, TX1, 6), (RX2, TX2, 3), (RX3, TX3, 7), (RX4, TX4, 6)]
