def RX0 : String := "ThermoscopeGallery$Gallery"
def TX0 : u_T := fun k => match k with
  | 0 => ("ThermoscopeGallery$Gallery", "spiritNames", "[I", true)
  | 1 => ("ThermoscopeGallery$Gallery", "expansions", "[I", true)
  | 2 => ("ThermoscopeGallery$Gallery", "bathNames", "[I", true)
  | 3 => ("ThermoscopeGallery$Gallery", "degreesOfBaths", "[I", true)
  | 4 => ("ThermoscopeGallery$Gallery", "tubes", "[LThermoscopeGallery$Tube;", true)
  | 5 => ("ThermoscopeGallery$Gallery", "spiritCount", "I", false)
  | 6 => ("ThermoscopeGallery$Gallery", "bathCount", "I", false)
  | 7 => ("ThermoscopeGallery$Gallery", "tubeCount", "I", false)
  | 8 => ("ThermoscopeGallery$Gallery", "minuteNumber", "I", false)
  | 9 => ("ThermoscopeGallery$Gallery", "room", "I", false)
  | 10 => ("ThermoscopeGallery$Gallery", "lag", "I", false)
  | 11 => ("ThermoscopeGallery$Gallery", "thumbed", "I", false)
  | _ => ("ThermoscopeGallery$Gallery", "thumbMinutes", "I", false)
def tyX0 : Nat → FieldType := fun k => match k with
  | 0 => .array .int
  | 1 => .array .int
  | 2 => .array .int
  | 3 => .array .int
  | 4 => .array (.object "ThermoscopeGallery$Tube")
  | 5 => .int
  | 6 => .int
  | 7 => .int
  | 8 => .int
  | 9 => .int
  | 10 => .int
  | 11 => .int
  | _ => .int
theorem nmX0 : ∀ a, a < 13 → ∀ b, b < 13 → a ≠ b → (TX0 a).2.1 ≠ (TX0 b).2.1 := by decide +kernel
theorem tyX0_ok : ∀ k, k < 13 → parseFieldDescriptor (TX0 k).2.2.1 = some (tyX0 k) := by decide +kernel
def RX1 : String := "ThermoscopeGallery$SetupReader"
def TX1 : u_T := fun k => match k with
  | 0 => ("ThermoscopeGallery$SetupReader", "text", "[B", true)
  | 1 => ("ThermoscopeGallery$SetupReader", "draft", "LThermoscopeGallery$Gallery;", true)
  | 2 => ("ThermoscopeGallery$SetupReader", "length", "I", false)
  | 3 => ("ThermoscopeGallery$SetupReader", "failCode", "I", false)
  | 4 => ("ThermoscopeGallery$SetupReader", "failOffset", "I", false)
  | 5 => ("ThermoscopeGallery$SetupReader", "kind", "I", false)
  | 6 => ("ThermoscopeGallery$SetupReader", "start", "I", false)
  | _ => ("ThermoscopeGallery$SetupReader", "end", "I", false)
def tyX1 : Nat → FieldType := fun k => match k with
  | 0 => .array .byte
  | 1 => .object "ThermoscopeGallery$Gallery"
  | 2 => .int
  | 3 => .int
  | 4 => .int
  | 5 => .int
  | 6 => .int
  | _ => .int
theorem nmX1 : ∀ a, a < 8 → ∀ b, b < 8 → a ≠ b → (TX1 a).2.1 ≠ (TX1 b).2.1 := by decide +kernel
theorem tyX1_ok : ∀ k, k < 8 → parseFieldDescriptor (TX1 k).2.2.1 = some (tyX1 k) := by decide +kernel
def RX2 : String := "ThermoscopeGallery$Tube"
def TX2 : u_T := fun k => match k with
  | 0 => ("ThermoscopeGallery$Tube", "number", "I", true)
  | 1 => ("ThermoscopeGallery$Tube", "degreesOfPoints", "[I", true)
  | 2 => ("ThermoscopeGallery$Tube", "heightsOfPoints", "[I", true)
  | 3 => ("ThermoscopeGallery$Tube", "points", "I", false)
  | 4 => ("ThermoscopeGallery$Tube", "spirit", "I", false)
  | 5 => ("ThermoscopeGallery$Tube", "spiritName", "I", false)
  | 6 => ("ThermoscopeGallery$Tube", "expansion", "I", false)
  | 7 => ("ThermoscopeGallery$Tube", "bulb", "I", false)
  | 8 => ("ThermoscopeGallery$Tube", "bore", "I", false)
  | 9 => ("ThermoscopeGallery$Tube", "length", "I", false)
  | 10 => ("ThermoscopeGallery$Tube", "fill", "I", false)
  | 11 => ("ThermoscopeGallery$Tube", "temperature", "I", false)
  | 12 => ("ThermoscopeGallery$Tube", "bath", "I", false)
  | 13 => ("ThermoscopeGallery$Tube", "leaky", "Z", false)
  | 14 => ("ThermoscopeGallery$Tube", "given", "I", false)
  | 15 => ("ThermoscopeGallery$Tube", "lost", "I", false)
  | _ => ("ThermoscopeGallery$Tube", "spilled", "I", false)
def tyX2 : Nat → FieldType := fun k => match k with
  | 0 => .int
  | 1 => .array .int
  | 2 => .array .int
  | 3 => .int
  | 4 => .int
  | 5 => .int
  | 6 => .int
  | 7 => .int
  | 8 => .int
  | 9 => .int
  | 10 => .int
  | 11 => .int
  | 12 => .int
  | 13 => .boolean
  | 14 => .int
  | 15 => .int
  | _ => .int
theorem nmX2 : ∀ a, a < 17 → ∀ b, b < 17 → a ≠ b → (TX2 a).2.1 ≠ (TX2 b).2.1 := by decide +kernel
theorem tyX2_ok : ∀ k, k < 17 → parseFieldDescriptor (TX2 k).2.2.1 = some (tyX2 k) := by decide +kernel
def RX3 : String := "ThermoscopeGallery"
def TX3 : u_T := fun k => match k with
  | 0 => ("ThermoscopeGallery", "reader", "LThermoscopeGallery$SetupReader;", true)
  | 1 => ("ThermoscopeGallery", "current", "LThermoscopeGallery$Gallery;", true)
  | 2 => ("ThermoscopeGallery", "future", "LThermoscopeGallery$Gallery;", true)
  | 3 => ("ThermoscopeGallery", "undoRows", "[LThermoscopeGallery$Gallery;", true)
  | 4 => ("ThermoscopeGallery", "slots", "[LThermoscopeGallery$Gallery;", true)
  | 5 => ("ThermoscopeGallery", "slotFilled", "[Z", true)
  | 6 => ("ThermoscopeGallery", "output", "Ljava/lang/StringBuilder;", true)
  | 7 => ("ThermoscopeGallery", "undoNext", "I", false)
  | 8 => ("ThermoscopeGallery", "undoCount", "I", false)
  | 9 => ("ThermoscopeGallery", "lastErrorCode", "I", false)
  | _ => ("ThermoscopeGallery", "lastErrorOffset", "I", false)
def tyX3 : Nat → FieldType := fun k => match k with
  | 0 => .object "ThermoscopeGallery$SetupReader"
  | 1 => .object "ThermoscopeGallery$Gallery"
  | 2 => .object "ThermoscopeGallery$Gallery"
  | 3 => .array (.object "ThermoscopeGallery$Gallery")
  | 4 => .array (.object "ThermoscopeGallery$Gallery")
  | 5 => .array .boolean
  | 6 => .object "java/lang/StringBuilder"
  | 7 => .int
  | 8 => .int
  | 9 => .int
  | _ => .int
theorem nmX3 : ∀ a, a < 11 → ∀ b, b < 11 → a ≠ b → (TX3 a).2.1 ≠ (TX3 b).2.1 := by decide +kernel
theorem tyX3_ok : ∀ k, k < 11 → parseFieldDescriptor (TX3 k).2.2.1 = some (tyX3 k) := by decide +kernel
def RX4 : String := "ThermoscopeGalleryModel"
def TX4 : u_T := fun k => match k with
  | _ => ("", "", "", false)
def tyX4 : Nat → FieldType := fun k => match k with
  | _ => .int
theorem nmX4 : ∀ a, a < 0 → ∀ b, b < 0 → a ≠ b → (TX4 a).2.1 ≠ (TX4 b).2.1 := by decide +kernel
theorem tyX4_ok : ∀ k, k < 0 → parseFieldDescriptor (TX4 k).2.2.1 = some (tyX4 k) := by decide +kernel
def RJx145de : String := "java/io/Serializable"
def TJx145de : u_T := fun k => match k with
  | _ => ("", "", "", false)
def tyJx145de : Nat → FieldType := fun k => match k with
  | _ => .int
theorem nmJx145de : ∀ a, a < 0 → ∀ b, b < 0 → a ≠ b → (TJx145de a).2.1 ≠ (TJx145de b).2.1 := by decide +kernel
theorem tyJx145de_ok : ∀ k, k < 0 → parseFieldDescriptor (TJx145de k).2.2.1 = some (tyJx145de k) := by decide +kernel
def RJ5 : String := "java/lang/AbstractStringBuilder"
def TJ5 : u_T := fun k => match k with
  | _ => ("", "", "", false)
def tyJ5 : Nat → FieldType := fun k => match k with
  | _ => .int
theorem nmJ5 : ∀ a, a < 0 → ∀ b, b < 0 → a ≠ b → (TJ5 a).2.1 ≠ (TJ5 b).2.1 := by decide +kernel
theorem tyJ5_ok : ∀ k, k < 0 → parseFieldDescriptor (TJ5 k).2.2.1 = some (tyJ5 k) := by decide +kernel
def RJx2cfe8 : String := "java/lang/Appendable"
def TJx2cfe8 : u_T := fun k => match k with
  | _ => ("", "", "", false)
def tyJx2cfe8 : Nat → FieldType := fun k => match k with
  | _ => .int
theorem nmJx2cfe8 : ∀ a, a < 0 → ∀ b, b < 0 → a ≠ b → (TJx2cfe8 a).2.1 ≠ (TJx2cfe8 b).2.1 := by decide +kernel
theorem tyJx2cfe8_ok : ∀ k, k < 0 → parseFieldDescriptor (TJx2cfe8 k).2.2.1 = some (tyJx2cfe8 k) := by decide +kernel
def RJx9f9b0 : String := "java/lang/CharSequence"
def TJx9f9b0 : u_T := fun k => match k with
  | _ => ("", "", "", false)
def tyJx9f9b0 : Nat → FieldType := fun k => match k with
  | _ => .int
theorem nmJx9f9b0 : ∀ a, a < 0 → ∀ b, b < 0 → a ≠ b → (TJx9f9b0 a).2.1 ≠ (TJx9f9b0 b).2.1 := by decide +kernel
theorem tyJx9f9b0_ok : ∀ k, k < 0 → parseFieldDescriptor (TJx9f9b0 k).2.2.1 = some (tyJx9f9b0 k) := by decide +kernel
def RJx8e188 : String := "java/lang/Cloneable"
def TJx8e188 : u_T := fun k => match k with
  | _ => ("", "", "", false)
def tyJx8e188 : Nat → FieldType := fun k => match k with
  | _ => .int
theorem nmJx8e188 : ∀ a, a < 0 → ∀ b, b < 0 → a ≠ b → (TJx8e188 a).2.1 ≠ (TJx8e188 b).2.1 := by decide +kernel
theorem tyJx8e188_ok : ∀ k, k < 0 → parseFieldDescriptor (TJx8e188 k).2.2.1 = some (tyJx8e188 k) := by decide +kernel
def RJxb160c : String := "java/lang/Comparable"
def TJxb160c : u_T := fun k => match k with
  | _ => ("", "", "", false)
def tyJxb160c : Nat → FieldType := fun k => match k with
  | _ => .int
theorem nmJxb160c : ∀ a, a < 0 → ∀ b, b < 0 → a ≠ b → (TJxb160c a).2.1 ≠ (TJxb160c b).2.1 := by decide +kernel
theorem tyJxb160c_ok : ∀ k, k < 0 → parseFieldDescriptor (TJxb160c k).2.2.1 = some (tyJxb160c k) := by decide +kernel
def RJ6 : String := "java/lang/Integer"
def TJ6 : u_T := fun k => match k with
  | _ => ("", "", "", false)
def tyJ6 : Nat → FieldType := fun k => match k with
  | _ => .int
theorem nmJ6 : ∀ a, a < 0 → ∀ b, b < 0 → a ≠ b → (TJ6 a).2.1 ≠ (TJ6 b).2.1 := by decide +kernel
theorem tyJ6_ok : ∀ k, k < 0 → parseFieldDescriptor (TJ6 k).2.2.1 = some (tyJ6 k) := by decide +kernel
def RJ9 : String := "java/lang/Math"
def TJ9 : u_T := fun k => match k with
  | _ => ("", "", "", false)
def tyJ9 : Nat → FieldType := fun k => match k with
  | _ => .int
theorem nmJ9 : ∀ a, a < 0 → ∀ b, b < 0 → a ≠ b → (TJ9 a).2.1 ≠ (TJ9 b).2.1 := by decide +kernel
theorem tyJ9_ok : ∀ k, k < 0 → parseFieldDescriptor (TJ9 k).2.2.1 = some (tyJ9 k) := by decide +kernel
def RJxd2413 : String := "java/lang/Number"
def TJxd2413 : u_T := fun k => match k with
  | _ => ("", "", "", false)
def tyJxd2413 : Nat → FieldType := fun k => match k with
  | _ => .int
theorem nmJxd2413 : ∀ a, a < 0 → ∀ b, b < 0 → a ≠ b → (TJxd2413 a).2.1 ≠ (TJxd2413 b).2.1 := by decide +kernel
theorem tyJxd2413_ok : ∀ k, k < 0 → parseFieldDescriptor (TJxd2413 k).2.2.1 = some (tyJxd2413 k) := by decide +kernel
def RJ0 : String := "java/lang/String"
def TJ0 : u_T := fun k => match k with
  | 0 => ("java/lang/String", "value", "[B", true)
  | 1 => ("java/lang/String", "coder", "B", true)
  | 2 => ("java/lang/String", "hash", "I", false)
  | _ => ("java/lang/String", "hashIsZero", "Z", false)
def tyJ0 : Nat → FieldType := fun k => match k with
  | 0 => .array .byte
  | 1 => .byte
  | 2 => .int
  | _ => .boolean
theorem nmJ0 : ∀ a, a < 4 → ∀ b, b < 4 → a ≠ b → (TJ0 a).2.1 ≠ (TJ0 b).2.1 := by decide +kernel
theorem tyJ0_ok : ∀ k, k < 4 → parseFieldDescriptor (TJ0 k).2.2.1 = some (tyJ0 k) := by decide +kernel
def RJ4 : String := "java/lang/StringBuilder"
def TJ4 : u_T := fun k => match k with
  | 0 => ("java/lang/AbstractStringBuilder", "value", "[B", false)
  | 1 => ("java/lang/AbstractStringBuilder", "coder", "B", false)
  | 2 => ("java/lang/AbstractStringBuilder", "maybeLatin1", "Z", false)
  | _ => ("java/lang/AbstractStringBuilder", "count", "I", false)
def tyJ4 : Nat → FieldType := fun k => match k with
  | 0 => .array .byte
  | 1 => .byte
  | 2 => .boolean
  | _ => .int
theorem nmJ4 : ∀ a, a < 4 → ∀ b, b < 4 → a ≠ b → (TJ4 a).2.1 ≠ (TJ4 b).2.1 := by decide +kernel
theorem tyJ4_ok : ∀ k, k < 4 → parseFieldDescriptor (TJ4 k).2.2.1 = some (tyJ4 k) := by decide +kernel
def RJ1 : String := "java/lang/StringLatin1"
def TJ1 : u_T := fun k => match k with
  | _ => ("", "", "", false)
def tyJ1 : Nat → FieldType := fun k => match k with
  | _ => .int
theorem nmJ1 : ∀ a, a < 0 → ∀ b, b < 0 → a ≠ b → (TJ1 a).2.1 ≠ (TJ1 b).2.1 := by decide +kernel
theorem tyJ1_ok : ∀ k, k < 0 → parseFieldDescriptor (TJ1 k).2.2.1 = some (tyJ1 k) := by decide +kernel
def RJ2 : String := "java/lang/StringUTF16"
def TJ2 : u_T := fun k => match k with
  | _ => ("", "", "", false)
def tyJ2 : Nat → FieldType := fun k => match k with
  | _ => .int
theorem nmJ2 : ∀ a, a < 0 → ∀ b, b < 0 → a ≠ b → (TJ2 a).2.1 ≠ (TJ2 b).2.1 := by decide +kernel
theorem tyJ2_ok : ∀ k, k < 0 → parseFieldDescriptor (TJ2 k).2.2.1 = some (tyJ2 k) := by decide +kernel
def RJ10 : String := "java/lang/System"
def TJ10 : u_T := fun k => match k with
  | _ => ("", "", "", false)
def tyJ10 : Nat → FieldType := fun k => match k with
  | _ => .int
theorem nmJ10 : ∀ a, a < 0 → ∀ b, b < 0 → a ≠ b → (TJ10 a).2.1 ≠ (TJ10 b).2.1 := by decide +kernel
theorem tyJ10_ok : ∀ k, k < 0 → parseFieldDescriptor (TJ10 k).2.2.1 = some (tyJ10 k) := by decide +kernel
def RJxfd54e : String := "java/lang/constant/Constable"
def TJxfd54e : u_T := fun k => match k with
  | _ => ("", "", "", false)
def tyJxfd54e : Nat → FieldType := fun k => match k with
  | _ => .int
theorem nmJxfd54e : ∀ a, a < 0 → ∀ b, b < 0 → a ≠ b → (TJxfd54e a).2.1 ≠ (TJxfd54e b).2.1 := by decide +kernel
theorem tyJxfd54e_ok : ∀ k, k < 0 → parseFieldDescriptor (TJxfd54e k).2.2.1 = some (tyJxfd54e k) := by decide +kernel
def RJx3cf43 : String := "java/lang/constant/ConstantDesc"
def TJx3cf43 : u_T := fun k => match k with
  | _ => ("", "", "", false)
def tyJx3cf43 : Nat → FieldType := fun k => match k with
  | _ => .int
theorem nmJx3cf43 : ∀ a, a < 0 → ∀ b, b < 0 → a ≠ b → (TJx3cf43 a).2.1 ≠ (TJx3cf43 b).2.1 := by decide +kernel
theorem tyJx3cf43_ok : ∀ k, k < 0 → parseFieldDescriptor (TJx3cf43 k).2.2.1 = some (tyJx3cf43 k) := by decide +kernel
def RJ7 : String := "java/util/Arrays"
def TJ7 : u_T := fun k => match k with
  | _ => ("", "", "", false)
def tyJ7 : Nat → FieldType := fun k => match k with
  | _ => .int
theorem nmJ7 : ∀ a, a < 0 → ∀ b, b < 0 → a ≠ b → (TJ7 a).2.1 ≠ (TJ7 b).2.1 := by decide +kernel
theorem tyJ7_ok : ∀ k, k < 0 → parseFieldDescriptor (TJ7 k).2.2.1 = some (tyJ7 k) := by decide +kernel
def RJ8 : String := "jdk/internal/util/ArraysSupport"
def TJ8 : u_T := fun k => match k with
  | _ => ("", "", "", false)
def tyJ8 : Nat → FieldType := fun k => match k with
  | _ => .int
theorem nmJ8 : ∀ a, a < 0 → ∀ b, b < 0 → a ≠ b → (TJ8 a).2.1 ≠ (TJ8 b).2.1 := by decide +kernel
theorem tyJ8_ok : ∀ k, k < 0 → parseFieldDescriptor (TJ8 k).2.2.1 = some (tyJ8 k) := by decide +kernel
def RJ3 : String := "jdk/internal/util/Preconditions"
def TJ3 : u_T := fun k => match k with
  | _ => ("", "", "", false)
def tyJ3 : Nat → FieldType := fun k => match k with
  | _ => .int
theorem nmJ3 : ∀ a, a < 0 → ∀ b, b < 0 → a ≠ b → (TJ3 a).2.1 ≠ (TJ3 b).2.1 := by decide +kernel
theorem tyJ3_ok : ∀ k, k < 0 → parseFieldDescriptor (TJ3 k).2.2.1 = some (tyJ3 k) := by decide +kernel
def RL : String := "ThermoscopeGalleryLaw"
abbrev cX0_init : ByteArray := prog_2_method_1_code
def yX0_init : MethodName := ⟨RX0, "<init>", "()V"⟩
abbrev cX0_copyFrom : ByteArray := prog_2_method_2_code
def yX0_copyFrom : MethodName := ⟨RX0, "copyFrom", "(LThermoscopeGallery$Gallery;)V"⟩
abbrev cX0_clear : ByteArray := prog_2_method_3_code
def yX0_clear : MethodName := ⟨RX0, "clear", "()V"⟩
abbrev cX0_addSpirit : ByteArray := prog_2_method_4_code
def yX0_addSpirit : MethodName := ⟨RX0, "addSpirit", "(II)V"⟩
abbrev cX0_addBath : ByteArray := prog_2_method_5_code
def yX0_addBath : MethodName := ⟨RX0, "addBath", "(II)V"⟩
abbrev cX0_addTube : ByteArray := prog_2_method_6_code
def yX0_addTube : MethodName := ⟨RX0, "addTube", "(IIIII)V"⟩
abbrev cX0_tenthsAround : ByteArray := prog_2_method_7_code
def yX0_tenthsAround : MethodName := ⟨RX0, "tenthsAround", "(LThermoscopeGallery$Tube;)I"⟩
abbrev cX0_atRest : ByteArray := prog_2_method_8_code
def yX0_atRest : MethodName := ⟨RX0, "atRest", "(LThermoscopeGallery$Tube;)Z"⟩
abbrev cX0_whyNotDip : ByteArray := prog_2_method_9_code
def yX0_whyNotDip : MethodName := ⟨RX0, "whyNotDip", "(LThermoscopeGallery$Tube;I)I"⟩
abbrev cX0_whyNotMark : ByteArray := prog_2_method_10_code
def yX0_whyNotMark : MethodName := ⟨RX0, "whyNotMark", "(LThermoscopeGallery$Tube;)I"⟩
abbrev cX0_markPoint : ByteArray := prog_2_method_11_code
def yX0_markPoint : MethodName := ⟨RX0, "markPoint", "(LThermoscopeGallery$Tube;)V"⟩
abbrev cX0_passMinutes : ByteArray := prog_2_method_12_code
def yX0_passMinutes : MethodName := ⟨RX0, "passMinutes", "(I)I"⟩
abbrev cX0_endThumbMinute : ByteArray := prog_2_method_13_code
def yX0_endThumbMinute : MethodName := ⟨RX0, "endThumbMinute", "(I)V"⟩
abbrev cX1_init : ByteArray := prog_3_method_1_code
def yX1_init : MethodName := ⟨RX1, "<init>", "()V"⟩
abbrev cX1_putByte : ByteArray := prog_3_method_2_code
def yX1_putByte : MethodName := ⟨RX1, "putByte", "(I)V"⟩
abbrev cX1_putFourBytes : ByteArray := prog_3_method_3_code
def yX1_putFourBytes : MethodName := ⟨RX1, "putFourBytes", "(I)V"⟩
abbrev cX1_putText : ByteArray := prog_3_method_4_code
def yX1_putText : MethodName := ⟨RX1, "putText", "(Ljava/lang/String;)V"⟩
abbrev cX1_readSetup : ByteArray := prog_3_method_5_code
def yX1_readSetup : MethodName := ⟨RX1, "readSetup", "()V"⟩
abbrev cX1_readGallery : ByteArray := prog_3_method_6_code
def yX1_readGallery : MethodName := ⟨RX1, "readGallery", "()V"⟩
abbrev cX1_readDescription : ByteArray := prog_3_method_7_code
def yX1_readDescription : MethodName := ⟨RX1, "readDescription", "()Z"⟩
abbrev cX1_readDeed : ByteArray := prog_3_method_8_code
def yX1_readDeed : MethodName := ⟨RX1, "readDeed", "()Z"⟩
abbrev cX1_readSpirit : ByteArray := prog_3_method_9_code
def yX1_readSpirit : MethodName := ⟨RX1, "readSpirit", "()V"⟩
abbrev cX1_readBath : ByteArray := prog_3_method_10_code
def yX1_readBath : MethodName := ⟨RX1, "readBath", "()V"⟩
abbrev cX1_readTube : ByteArray := prog_3_method_11_code
def yX1_readTube : MethodName := ⟨RX1, "readTube", "()V"⟩
abbrev cX1_readLeaky : ByteArray := prog_3_method_12_code
def yX1_readLeaky : MethodName := ⟨RX1, "readLeaky", "(Z)V"⟩
abbrev cX1_readDip : ByteArray := prog_3_method_13_code
def yX1_readDip : MethodName := ⟨RX1, "readDip", "()V"⟩
abbrev cX1_readLift : ByteArray := prog_3_method_14_code
def yX1_readLift : MethodName := ⟨RX1, "readLift", "()V"⟩
abbrev cX1_readMark : ByteArray := prog_3_method_15_code
def yX1_readMark : MethodName := ⟨RX1, "readMark", "()V"⟩
abbrev cX1_readThumb : ByteArray := prog_3_method_16_code
def yX1_readThumb : MethodName := ⟨RX1, "readThumb", "()V"⟩
abbrev cX1_readFill : ByteArray := prog_3_method_17_code
def yX1_readFill : MethodName := ⟨RX1, "readFill", "()V"⟩
abbrev cX1_readErase : ByteArray := prog_3_method_18_code
def yX1_readErase : MethodName := ⟨RX1, "readErase", "()V"⟩
abbrev cX1_readRoom : ByteArray := prog_3_method_19_code
def yX1_readRoom : MethodName := ⟨RX1, "readRoom", "()V"⟩
abbrev cX1_readPass : ByteArray := prog_3_method_20_code
def yX1_readPass : MethodName := ⟨RX1, "readPass", "()V"⟩
abbrev cX1_fail : ByteArray := prog_3_method_21_code
def yX1_fail : MethodName := ⟨RX1, "fail", "(I)V"⟩
abbrev cX1_takeRow : ByteArray := prog_3_method_22_code
def yX1_takeRow : MethodName := ⟨RX1, "takeRow", "(II)V"⟩
abbrev cX1_takeWord : ByteArray := prog_3_method_23_code
def yX1_takeWord : MethodName := ⟨RX1, "takeWord", "(Ljava/lang/String;)Z"⟩
abbrev cX1_takeNumber : ByteArray := prog_3_method_24_code
def yX1_takeNumber : MethodName := ⟨RX1, "takeNumber", "(II)I"⟩
abbrev cX1_takeDegrees : ByteArray := prog_3_method_25_code
def yX1_takeDegrees : MethodName := ⟨RX1, "takeDegrees", "()I"⟩
abbrev cX1_takeTube : ByteArray := prog_3_method_26_code
def yX1_takeTube : MethodName := ⟨RX1, "takeTube", "()LThermoscopeGallery$Tube;"⟩
abbrev cX1_takeNewName : ByteArray := prog_3_method_27_code
def yX1_takeNewName : MethodName := ⟨RX1, "takeNewName", "()I"⟩
abbrev cX1_takeKnownName : ByteArray := prog_3_method_28_code
def yX1_takeKnownName : MethodName := ⟨RX1, "takeKnownName", "([II)I"⟩
abbrev cX1_takeSemicolon : ByteArray := prog_3_method_29_code
def yX1_takeSemicolon : MethodName := ⟨RX1, "takeSemicolon", "(Z)Z"⟩
abbrev cX1_indexOfName : ByteArray := prog_3_method_30_code
def yX1_indexOfName : MethodName := ⟨RX1, "indexOfName", "([III)I"⟩
abbrev cX1_nextToken : ByteArray := prog_3_method_31_code
def yX1_nextToken : MethodName := ⟨RX1, "nextToken", "()V"⟩
abbrev cX1_kindOf : ByteArray := prog_3_method_32_code
def yX1_kindOf : MethodName := ⟨RX1, "kindOf", "(B)I"⟩
abbrev cX1_atWord : ByteArray := prog_3_method_33_code
def yX1_atWord : MethodName := ⟨RX1, "atWord", "(Ljava/lang/String;)Z"⟩
abbrev cX1_tokenNumber : ByteArray := prog_3_method_34_code
def yX1_tokenNumber : MethodName := ⟨RX1, "tokenNumber", "()I"⟩
abbrev cX1_tokenName : ByteArray := prog_3_method_35_code
def yX1_tokenName : MethodName := ⟨RX1, "tokenName", "()I"⟩
abbrev cX2_init : ByteArray := prog_4_method_1_code
def yX2_init : MethodName := ⟨RX2, "<init>", "(I)V"⟩
abbrev cX2_copyFrom : ByteArray := prog_4_method_2_code
def yX2_copyFrom : MethodName := ⟨RX2, "copyFrom", "(LThermoscopeGallery$Tube;)V"⟩
abbrev cX2_describe : ByteArray := prog_4_method_3_code
def yX2_describe : MethodName := ⟨RX2, "describe", "(IIIII)V"⟩
abbrev cX2_holdSpirit : ByteArray := prog_4_method_4_code
def yX2_holdSpirit : MethodName := ⟨RX2, "holdSpirit", "(III)V"⟩
abbrev cX2_addSpirit : ByteArray := prog_4_method_5_code
def yX2_addSpirit : MethodName := ⟨RX2, "addSpirit", "(I)V"⟩
abbrev cX2_freeHeight : ByteArray := prog_4_method_6_code
def yX2_freeHeight : MethodName := ⟨RX2, "freeHeight", "(I)I"⟩
abbrev cX2_level : ByteArray := prog_4_method_7_code
def yX2_level : MethodName := ⟨RX2, "level", "()I"⟩
abbrev cX2_passMinute : ByteArray := prog_4_method_8_code
def yX2_passMinute : MethodName := ⟨RX2, "passMinute", "(III)I"⟩
abbrev cX2_hasPointOfDegrees : ByteArray := prog_4_method_9_code
def yX2_hasPointOfDegrees : MethodName := ⟨RX2, "hasPointOfDegrees", "(I)Z"⟩
abbrev cX2_hasPointOfHeight : ByteArray := prog_4_method_10_code
def yX2_hasPointOfHeight : MethodName := ⟨RX2, "hasPointOfHeight", "(I)Z"⟩
abbrev cX2_addPoint : ByteArray := prog_4_method_11_code
def yX2_addPoint : MethodName := ⟨RX2, "addPoint", "(II)V"⟩
abbrev cX2_removePoint : ByteArray := prog_4_method_12_code
def yX2_removePoint : MethodName := ⟨RX2, "removePoint", "(I)V"⟩
abbrev cX2_scaled : ByteArray := prog_4_method_13_code
def yX2_scaled : MethodName := ⟨RX2, "scaled", "()Z"⟩
abbrev cX2_lowerPoint : ByteArray := prog_4_method_14_code
def yX2_lowerPoint : MethodName := ⟨RX2, "lowerPoint", "()I"⟩
abbrev cX2_upperPoint : ByteArray := prog_4_method_15_code
def yX2_upperPoint : MethodName := ⟨RX2, "upperPoint", "()I"⟩
abbrev cX2_tenthsToldFor : ByteArray := prog_4_method_16_code
def yX2_tenthsToldFor : MethodName := ⟨RX2, "tenthsToldFor", "(I)I"⟩
abbrev cX2_tenthsRead : ByteArray := prog_4_method_17_code
def yX2_tenthsRead : MethodName := ⟨RX2, "tenthsRead", "()I"⟩
abbrev cX2_misfit : ByteArray := prog_4_method_18_code
def yX2_misfit : MethodName := ⟨RX2, "misfit", "(I)I"⟩
abbrev cX2_greatestMisfit : ByteArray := prog_4_method_19_code
def yX2_greatestMisfit : MethodName := ⟨RX2, "greatestMisfit", "()I"⟩
abbrev cX2_misses : ByteArray := prog_4_method_20_code
def yX2_misses : MethodName := ⟨RX2, "misses", "(I)Z"⟩
abbrev cX3_init : ByteArray := prog_1_method_1_code
def yX3_init : MethodName := ⟨RX3, "<init>", "()V"⟩
abbrev cX3_emptyGalleries : ByteArray := prog_1_method_2_code
def yX3_emptyGalleries : MethodName := ⟨RX3, "emptyGalleries", "(I)[LThermoscopeGallery$Gallery;"⟩
abbrev cX3_append : ByteArray := prog_1_method_3_code
def yX3_append : MethodName := ⟨RX3, "append", "(IIIII)I"⟩
abbrev cX3_truncate : ByteArray := prog_1_method_4_code
def yX3_truncate : MethodName := ⟨RX3, "truncate", "(I)I"⟩
abbrev cX3_load : ByteArray := prog_1_method_5_code
def yX3_load : MethodName := ⟨RX3, "load", "()I"⟩
abbrev cX3_errorCode : ByteArray := prog_1_method_6_code
def yX3_errorCode : MethodName := ⟨RX3, "errorCode", "()I"⟩
abbrev cX3_errorOffset : ByteArray := prog_1_method_7_code
def yX3_errorOffset : MethodName := ⟨RX3, "errorOffset", "()I"⟩
abbrev cX3_minute : ByteArray := prog_1_method_8_code
def yX3_minute : MethodName := ⟨RX3, "minute", "()I"⟩
abbrev cX3_roomDegrees : ByteArray := prog_1_method_9_code
def yX3_roomDegrees : MethodName := ⟨RX3, "roomDegrees", "()I"⟩
abbrev cX3_bathDegrees : ByteArray := prog_1_method_10_code
def yX3_bathDegrees : MethodName := ⟨RX3, "bathDegrees", "(I)I"⟩
abbrev cX3_tubesIn : ByteArray := prog_1_method_11_code
def yX3_tubesIn : MethodName := ⟨RX3, "tubesIn", "(I)I"⟩
abbrev cX3_spiritInTubes : ByteArray := prog_1_method_12_code
def yX3_spiritInTubes : MethodName := ⟨RX3, "spiritInTubes", "(I)I"⟩
abbrev cX3_spiritLost : ByteArray := prog_1_method_13_code
def yX3_spiritLost : MethodName := ⟨RX3, "spiritLost", "(I)I"⟩
abbrev cX3_spiritOf : ByteArray := prog_1_method_14_code
def yX3_spiritOf : MethodName := ⟨RX3, "spiritOf", "(I)I"⟩
abbrev cX3_fillOf : ByteArray := prog_1_method_15_code
def yX3_fillOf : MethodName := ⟨RX3, "fillOf", "(I)I"⟩
abbrev cX3_temperatureOf : ByteArray := prog_1_method_16_code
def yX3_temperatureOf : MethodName := ⟨RX3, "temperatureOf", "(I)I"⟩
abbrev cX3_surroundingsOf : ByteArray := prog_1_method_17_code
def yX3_surroundingsOf : MethodName := ⟨RX3, "surroundingsOf", "(I)I"⟩
abbrev cX3_isSettled : ByteArray := prog_1_method_18_code
def yX3_isSettled : MethodName := ⟨RX3, "isSettled", "(I)Z"⟩
abbrev cX3_isLeaky : ByteArray := prog_1_method_19_code
def yX3_isLeaky : MethodName := ⟨RX3, "isLeaky", "(I)Z"⟩
abbrev cX3_bathOf : ByteArray := prog_1_method_20_code
def yX3_bathOf : MethodName := ⟨RX3, "bathOf", "(I)I"⟩
abbrev cX3_height : ByteArray := prog_1_method_21_code
def yX3_height : MethodName := ⟨RX3, "height", "(I)I"⟩
abbrev cX3_freeHeightAt : ByteArray := prog_1_method_22_code
def yX3_freeHeightAt : MethodName := ⟨RX3, "freeHeightAt", "(II)I"⟩
abbrev cX3_greatestTemperature : ByteArray := prog_1_method_23_code
def yX3_greatestTemperature : MethodName := ⟨RX3, "greatestTemperature", "(I)I"⟩
abbrev cX3_thumbedTube : ByteArray := prog_1_method_24_code
def yX3_thumbedTube : MethodName := ⟨RX3, "thumbedTube", "()I"⟩
abbrev cX3_thumbLeft : ByteArray := prog_1_method_25_code
def yX3_thumbLeft : MethodName := ⟨RX3, "thumbLeft", "()I"⟩
abbrev cX3_pointCount : ByteArray := prog_1_method_26_code
def yX3_pointCount : MethodName := ⟨RX3, "pointCount", "(I)I"⟩
abbrev cX3_pointDegrees : ByteArray := prog_1_method_27_code
def yX3_pointDegrees : MethodName := ⟨RX3, "pointDegrees", "(II)I"⟩
abbrev cX3_pointHeight : ByteArray := prog_1_method_28_code
def yX3_pointHeight : MethodName := ⟨RX3, "pointHeight", "(II)I"⟩
abbrev cX3_hasScale : ByteArray := prog_1_method_29_code
def yX3_hasScale : MethodName := ⟨RX3, "hasScale", "(I)Z"⟩
abbrev cX3_reading : ByteArray := prog_1_method_30_code
def yX3_reading : MethodName := ⟨RX3, "reading", "(I)I"⟩
abbrev cX3_readingError : ByteArray := prog_1_method_31_code
def yX3_readingError : MethodName := ⟨RX3, "readingError", "(I)I"⟩
abbrev cX3_scaleAt : ByteArray := prog_1_method_32_code
def yX3_scaleAt : MethodName := ⟨RX3, "scaleAt", "(II)I"⟩
abbrev cX3_fitError : ByteArray := prog_1_method_33_code
def yX3_fitError : MethodName := ⟨RX3, "fitError", "(I)I"⟩
abbrev cX3_sensitivity : ByteArray := prog_1_method_34_code
def yX3_sensitivity : MethodName := ⟨RX3, "sensitivity", "(I)I"⟩
abbrev cX3_dipRefusal : ByteArray := prog_1_method_35_code
def yX3_dipRefusal : MethodName := ⟨RX3, "dipRefusal", "(II)I"⟩
abbrev cX3_markRefusal : ByteArray := prog_1_method_36_code
def yX3_markRefusal : MethodName := ⟨RX3, "markRefusal", "(I)I"⟩
abbrev cX3_bestTube : ByteArray := prog_1_method_37_code
def yX3_bestTube : MethodName := ⟨RX3, "bestTube", "()I"⟩
abbrev cX3_tallestTube : ByteArray := prog_1_method_38_code
def yX3_tallestTube : MethodName := ⟨RX3, "tallestTube", "()I"⟩
abbrev cX3_spread : ByteArray := prog_1_method_39_code
def yX3_spread : MethodName := ⟨RX3, "spread", "()I"⟩
abbrev cX3_disagreement : ByteArray := prog_1_method_40_code
def yX3_disagreement : MethodName := ⟨RX3, "disagreement", "(II)I"⟩
abbrev cX3_worstFit : ByteArray := prog_1_method_41_code
def yX3_worstFit : MethodName := ⟨RX3, "worstFit", "()I"⟩
abbrev cX3_bathsToMark : ByteArray := prog_1_method_42_code
def yX3_bathsToMark : MethodName := ⟨RX3, "bathsToMark", "(I)I"⟩
abbrev cX3_missedPoints : ByteArray := prog_1_method_43_code
def yX3_missedPoints : MethodName := ⟨RX3, "missedPoints", "()I"⟩
abbrev cX3_spiritDifference : ByteArray := prog_1_method_44_code
def yX3_spiritDifference : MethodName := ⟨RX3, "spiritDifference", "()I"⟩
abbrev cX3_settledShare : ByteArray := prog_1_method_45_code
def yX3_settledShare : MethodName := ⟨RX3, "settledShare", "()F"⟩
abbrev cX3_meanHeight : ByteArray := prog_1_method_46_code
def yX3_meanHeight : MethodName := ⟨RX3, "meanHeight", "()D"⟩
abbrev cX3_dip : ByteArray := prog_1_method_53_code
def yX3_dip : MethodName := ⟨RX3, "dip", "(II)I"⟩
abbrev cX3_lift : ByteArray := prog_1_method_54_code
def yX3_lift : MethodName := ⟨RX3, "lift", "(I)I"⟩
abbrev cX3_mark : ByteArray := prog_1_method_55_code
def yX3_mark : MethodName := ⟨RX3, "mark", "(I)I"⟩
abbrev cX3_erasePoint : ByteArray := prog_1_method_56_code
def yX3_erasePoint : MethodName := ⟨RX3, "erasePoint", "(II)I"⟩
abbrev cX3_layThumb : ByteArray := prog_1_method_57_code
def yX3_layThumb : MethodName := ⟨RX3, "layThumb", "(II)I"⟩
abbrev cX3_topUp : ByteArray := prog_1_method_58_code
def yX3_topUp : MethodName := ⟨RX3, "topUp", "(II)I"⟩
abbrev cX3_setRoom : ByteArray := prog_1_method_59_code
def yX3_setRoom : MethodName := ⟨RX3, "setRoom", "(I)I"⟩
abbrev cX3_setLeaky : ByteArray := prog_1_method_60_code
def yX3_setLeaky : MethodName := ⟨RX3, "setLeaky", "(IZ)Z"⟩
abbrev cX3_pass : ByteArray := prog_1_method_61_code
def yX3_pass : MethodName := ⟨RX3, "pass", "(I)I"⟩
abbrev cX3_undo : ByteArray := prog_1_method_64_code
def yX3_undo : MethodName := ⟨RX3, "undo", "()I"⟩
abbrev cX3_rememberCurrent : ByteArray := prog_1_method_65_code
def yX3_rememberCurrent : MethodName := ⟨RX3, "rememberCurrent", "()V"⟩
abbrev cX3_checkedTube : ByteArray := prog_1_method_69_code
def yX3_checkedTube : MethodName := ⟨RX3, "checkedTube", "(I)LThermoscopeGallery$Tube;"⟩
abbrev cX3_checkBath : ByteArray := prog_1_method_70_code
def yX3_checkBath : MethodName := ⟨RX3, "checkBath", "(I)V"⟩
abbrev cX3_checkSpirit : ByteArray := prog_1_method_71_code
def yX3_checkSpirit : MethodName := ⟨RX3, "checkSpirit", "(I)V"⟩
abbrev cX3_checkRange : ByteArray := prog_1_method_73_code
def yX3_checkRange : MethodName := ⟨RX3, "checkRange", "(III)V"⟩
abbrev cX3_checkPoint : ByteArray := prog_1_method_74_code
def yX3_checkPoint : MethodName := ⟨RX3, "checkPoint", "(LThermoscopeGallery$Tube;I)V"⟩
abbrev cX3_checkScale : ByteArray := prog_1_method_75_code
def yX3_checkScale : MethodName := ⟨RX3, "checkScale", "(LThermoscopeGallery$Tube;)V"⟩
abbrev cJ5_init_d00df : ByteArray := prog_8_method_2_code
def yJ5_init_d00df : MethodName := ⟨RJ5, "<init>", "(I)V"⟩
abbrev cJ5_init_a7421 : ByteArray := prog_8_method_3_code
def yJ5_init_a7421 : MethodName := ⟨RJ5, "<init>", "(Ljava/lang/String;)V"⟩
abbrev cJ5_length_8abf5 : ByteArray := prog_8_method_6_code
def yJ5_length_8abf5 : MethodName := ⟨RJ5, "length", "()I"⟩
abbrev cJ5_ensureCapacityInternal_d00df : ByteArray := prog_8_method_9_code
def yJ5_ensureCapacityInternal_d00df : MethodName := ⟨RJ5, "ensureCapacityInternal", "(I)V"⟩
abbrev cJ5_newCapacity_0f7a4 : ByteArray := prog_8_method_10_code
def yJ5_newCapacity_0f7a4 : MethodName := ⟨RJ5, "newCapacity", "(I)I"⟩
abbrev cJ5_inflate_da8c8 : ByteArray := prog_8_method_11_code
def yJ5_inflate_da8c8 : MethodName := ⟨RJ5, "inflate", "()V"⟩
abbrev cJ5_append_cf1ce : ByteArray := prog_8_method_22_code
def yJ5_append_cf1ce : MethodName := ⟨RJ5, "append", "(Ljava/lang/String;)Ljava/lang/AbstractStringBuilder;"⟩
abbrev cJ5_appendNull_278bc : ByteArray := prog_8_method_26_code
def yJ5_appendNull_278bc : MethodName := ⟨RJ5, "appendNull", "()Ljava/lang/AbstractStringBuilder;"⟩
abbrev cJ5_append_c97b9 : ByteArray := prog_8_method_32_code
def yJ5_append_c97b9 : MethodName := ⟨RJ5, "append", "(I)Ljava/lang/AbstractStringBuilder;"⟩
abbrev cJ5_getValue_6d5f1 : ByteArray := prog_8_method_64_code
def yJ5_getValue_6d5f1 : MethodName := ⟨RJ5, "getValue", "()[B"⟩
abbrev cJ5_isLatin1_aae02 : ByteArray := prog_8_method_68_code
def yJ5_isLatin1_aae02 : MethodName := ⟨RJ5, "isLatin1", "()Z"⟩
abbrev cJ5_inflateIfNeededFor_a7421 : ByteArray := prog_8_method_71_code
def yJ5_inflateIfNeededFor_a7421 : MethodName := ⟨RJ5, "inflateIfNeededFor", "(Ljava/lang/String;)V"⟩
abbrev cJ5_putStringAt_47b60 : ByteArray := prog_8_method_73_code
def yJ5_putStringAt_47b60 : MethodName := ⟨RJ5, "putStringAt", "(ILjava/lang/String;)V"⟩
abbrev cJ6_getChars_ba4f3 : ByteArray := prog_17_method_12_code
def yJ6_getChars_ba4f3 : MethodName := ⟨RJ6, "getChars", "(II[B)I"⟩
abbrev cJ6_stringSize_0f7a4 : ByteArray := prog_17_method_13_code
def yJ6_stringSize_0f7a4 : MethodName := ⟨RJ6, "stringSize", "(I)I"⟩
abbrev cJ9_abs_0f7a4 : ByteArray := prog_18_method_59_code
def yJ9_abs_0f7a4 : MethodName := ⟨RJ9, "abs", "(I)I"⟩
abbrev cJ9_max_7cf53 : ByteArray := prog_18_method_65_code
def yJ9_max_7cf53 : MethodName := ⟨RJ9, "max", "(II)I"⟩
abbrev cJ9_min_7cf53 : ByteArray := prog_18_method_69_code
def yJ9_min_7cf53 : MethodName := ⟨RJ9, "min", "(II)I"⟩
abbrev cJ0_init_81219 : ByteArray := prog_21_method_53_code
def yJ0_init_81219 : MethodName := ⟨RJ0, "<init>", "(Ljava/lang/StringBuilder;)V"⟩
abbrev cJ0_length_8abf5 : ByteArray := prog_21_method_54_code
def yJ0_length_8abf5 : MethodName := ⟨RJ0, "length", "()I"⟩
abbrev cJ0_charAt_5068e : ByteArray := prog_21_method_56_code
def yJ0_charAt_5068e : MethodName := ⟨RJ0, "charAt", "(I)C"⟩
abbrev cJ0_getBytes_840e7 : ByteArray := prog_21_method_147_code
def yJ0_getBytes_840e7 : MethodName := ⟨RJ0, "getBytes", "([BIB)V"⟩
abbrev cJ0_init_db425 : ByteArray := prog_21_method_150_code
def yJ0_init_db425 : MethodName := ⟨RJ0, "<init>", "(Ljava/lang/AbstractStringBuilder;Ljava/lang/Void;)V"⟩
abbrev cJ0_coder_7d493 : ByteArray := prog_21_method_152_code
def yJ0_coder_7d493 : MethodName := ⟨RJ0, "coder", "()B"⟩
abbrev cJ0_isLatin1_aae02 : ByteArray := prog_21_method_154_code
def yJ0_isLatin1_aae02 : MethodName := ⟨RJ0, "isLatin1", "()Z"⟩
abbrev cJ0_checkIndex_df160 : ByteArray := prog_21_method_155_code
def yJ0_checkIndex_df160 : MethodName := ⟨RJ0, "checkIndex", "(II)V"⟩
abbrev cJ0_checkBoundsOffCount_cabcc : ByteArray := prog_21_method_157_code
def yJ0_checkBoundsOffCount_cabcc : MethodName := ⟨RJ0, "checkBoundsOffCount", "(III)I"⟩
abbrev cJ0_checkBoundsBeginEnd_23922 : ByteArray := prog_21_method_158_code
def yJ0_checkBoundsBeginEnd_23922 : MethodName := ⟨RJ0, "checkBoundsBeginEnd", "(III)V"⟩
abbrev cJ4_init_da8c8 : ByteArray := prog_22_method_1_code
def yJ4_init_da8c8 : MethodName := ⟨RJ4, "<init>", "()V"⟩
abbrev cJ4_init_a7421 : ByteArray := prog_22_method_3_code
def yJ4_init_a7421 : MethodName := ⟨RJ4, "<init>", "(Ljava/lang/String;)V"⟩
abbrev cJ4_append_15ec4 : ByteArray := prog_22_method_7_code
def yJ4_append_15ec4 : MethodName := ⟨RJ4, "append", "(Ljava/lang/String;)Ljava/lang/StringBuilder;"⟩
abbrev cJ4_append_bf812 : ByteArray := prog_22_method_15_code
def yJ4_append_bf812 : MethodName := ⟨RJ4, "append", "(I)Ljava/lang/StringBuilder;"⟩
abbrev cJ4_toString_0e30d : ByteArray := prog_22_method_42_code
def yJ4_toString_0e30d : MethodName := ⟨RJ4, "toString", "()Ljava/lang/String;"⟩
abbrev cJ4_append_cf1ce : ByteArray := prog_22_method_80_code
def yJ4_append_cf1ce : MethodName := ⟨RJ4, "append", "(Ljava/lang/String;)Ljava/lang/AbstractStringBuilder;"⟩
abbrev cJ4_length_8abf5 : ByteArray := prog_22_method_93_code
def yJ4_length_8abf5 : MethodName := ⟨RJ4, "length", "()I"⟩
abbrev cJ1_charAt_3b067 : ByteArray := prog_23_method_2_code
def yJ1_charAt_3b067 : MethodName := ⟨RJ1, "charAt", "([BI)C"⟩
abbrev cJ1_inflate_0e8fd : ByteArray := prog_23_method_50_code
def yJ1_inflate_0e8fd : MethodName := ⟨RJ1, "inflate", "([BI[BII)V"⟩
abbrev cJ2_newBytesFor_77867 : ByteArray := prog_24_method_2_code
def yJ2_newBytesFor_77867 : MethodName := ⟨RJ2, "newBytesFor", "(I)[B"⟩
abbrev cJ2_newBytesLength_0f7a4 : ByteArray := prog_24_method_3_code
def yJ2_newBytesLength_0f7a4 : MethodName := ⟨RJ2, "newBytesLength", "(I)I"⟩
abbrev cJ2_putChar_b72d1 : ByteArray := prog_24_method_4_code
def yJ2_putChar_b72d1 : MethodName := ⟨RJ2, "putChar", "([BII)V"⟩
abbrev cJ2_getChar_3b067 : ByteArray := prog_24_method_5_code
def yJ2_getChar_3b067 : MethodName := ⟨RJ2, "getChar", "([BI)C"⟩
abbrev cJ2_length_9d52b : ByteArray := prog_24_method_6_code
def yJ2_length_9d52b : MethodName := ⟨RJ2, "length", "([B)I"⟩
abbrev cJ2_coderFromArrayLen_85cad : ByteArray := prog_24_method_15_code
def yJ2_coderFromArrayLen_85cad : MethodName := ⟨RJ2, "coderFromArrayLen", "([BI)B"⟩
abbrev cJ2_compress_39247 : ByteArray := prog_24_method_17_code
def yJ2_compress_39247 : MethodName := ⟨RJ2, "compress", "([BII)[B"⟩
abbrev cJ2_compress_5af95 : ByteArray := prog_24_method_22_code
def yJ2_compress_5af95 : MethodName := ⟨RJ2, "compress", "([BI[BII)I"⟩
abbrev cJ2_getChars_46870 : ByteArray := prog_24_method_77_code
def yJ2_getChars_46870 : MethodName := ⟨RJ2, "getChars", "(III[B)I"⟩
abbrev cJ2_putCharsAt_cd4e5 : ByteArray := prog_24_method_81_code
def yJ2_putCharsAt_cd4e5 : MethodName := ⟨RJ2, "putCharsAt", "([BICCCC)I"⟩
abbrev cJ2_charAt_3b067 : ByteArray := prog_24_method_83_code
def yJ2_charAt_3b067 : MethodName := ⟨RJ2, "charAt", "([BI)C"⟩
abbrev cJ2_inflate_0e8fd : ByteArray := prog_24_method_86_code
def yJ2_inflate_0e8fd : MethodName := ⟨RJ2, "inflate", "([BI[BII)V"⟩
abbrev cJ2_getChars_ba4f3 : ByteArray := prog_24_method_89_code
def yJ2_getChars_ba4f3 : MethodName := ⟨RJ2, "getChars", "(II[B)I"⟩
abbrev cJ2_checkIndex_2214a : ByteArray := prog_24_method_91_code
def yJ2_checkIndex_2214a : MethodName := ⟨RJ2, "checkIndex", "(I[B)V"⟩
abbrev cJ2_checkBoundsBeginEnd_d044e : ByteArray := prog_24_method_93_code
def yJ2_checkBoundsBeginEnd_d044e : MethodName := ⟨RJ2, "checkBoundsBeginEnd", "(II[B)V"⟩
abbrev cJ2_checkBoundsOffCount_d044e : ByteArray := prog_24_method_94_code
def yJ2_checkBoundsOffCount_d044e : MethodName := ⟨RJ2, "checkBoundsOffCount", "(II[B)V"⟩
abbrev cJ7_copyOf_9075b : ByteArray := prog_29_method_121_code
def yJ7_copyOf_9075b : MethodName := ⟨RJ7, "copyOf", "([BI)[B"⟩
abbrev cJ7_checkLength_df160 : ByteArray := prog_29_method_131_code
def yJ7_checkLength_df160 : MethodName := ⟨RJ7, "checkLength", "(II)V"⟩
abbrev cJ7_copyOfRange_39247 : ByteArray := prog_29_method_132_code
def yJ7_copyOfRange_39247 : MethodName := ⟨RJ7, "copyOfRange", "([BII)[B"⟩
abbrev cJ7_copyOfRangeByte_39247 : ByteArray := prog_29_method_133_code
def yJ7_copyOfRangeByte_39247 : MethodName := ⟨RJ7, "copyOfRangeByte", "([BII)[B"⟩
abbrev cJ8_newLength_cabcc : ByteArray := prog_31_method_27_code
def yJ8_newLength_cabcc : MethodName := ⟨RJ8, "newLength", "(III)I"⟩
abbrev cJ8_hugeLength_7cf53 : ByteArray := prog_31_method_28_code
def yJ8_hugeLength_7cf53 : MethodName := ⟨RJ8, "hugeLength", "(II)I"⟩
abbrev cJ3_checkIndex_8e157 : ByteArray := prog_32_method_11_code
def yJ3_checkIndex_8e157 : MethodName := ⟨RJ3, "checkIndex", "(IILjava/util/function/BiFunction;)I"⟩
abbrev cJ3_checkFromToIndex_8c36e : ByteArray := prog_32_method_12_code
def yJ3_checkFromToIndex_8c36e : MethodName := ⟨RJ3, "checkFromToIndex", "(IIILjava/util/function/BiFunction;)I"⟩
abbrev cJ3_checkFromIndexSize_8c36e : ByteArray := prog_32_method_13_code
def yJ3_checkFromIndexSize_8c36e : MethodName := ⟨RJ3, "checkFromIndexSize", "(IIILjava/util/function/BiFunction;)I"⟩
abbrev cL_draw : ByteArray := method_2_code
def yL_draw : MethodName := ⟨RL, "draw", "([III)I"⟩
abbrev cL_four : ByteArray := method_3_code
def yL_four : MethodName := ⟨RL, "four", "(Ljava/lang/String;I)I"⟩
abbrev cL_feed : ByteArray := method_4_code
def yL_feed : MethodName := ⟨RL, "feed", "(LThermoscopeGallery;Ljava/lang/String;)V"⟩
abbrev cL_room : ByteArray := method_5_code
def yL_room : MethodName := ⟨RL, "room", "([I)I"⟩
abbrev cL_lag : ByteArray := method_6_code
def yL_lag : MethodName := ⟨RL, "lag", "([I)I"⟩
abbrev cL_spirits : ByteArray := method_7_code
def yL_spirits : MethodName := ⟨RL, "spirits", "([I)I"⟩
abbrev cL_expansion : ByteArray := method_8_code
def yL_expansion : MethodName := ⟨RL, "expansion", "([II)I"⟩
abbrev cL_baths : ByteArray := method_9_code
def yL_baths : MethodName := ⟨RL, "baths", "([I)I"⟩
abbrev cL_degrees : ByteArray := method_10_code
def yL_degrees : MethodName := ⟨RL, "degrees", "([II)I"⟩
abbrev cL_tubes : ByteArray := method_11_code
def yL_tubes : MethodName := ⟨RL, "tubes", "([I)I"⟩
abbrev cL_spirit : ByteArray := method_12_code
def yL_spirit : MethodName := ⟨RL, "spirit", "([II)I"⟩
abbrev cL_bulb : ByteArray := method_13_code
def yL_bulb : MethodName := ⟨RL, "bulb", "([II)I"⟩
abbrev cL_bore : ByteArray := method_14_code
def yL_bore : MethodName := ⟨RL, "bore", "([II)I"⟩
abbrev cL_length : ByteArray := method_15_code
def yL_length : MethodName := ⟨RL, "length", "([II)I"⟩
abbrev cL_fill : ByteArray := method_16_code
def yL_fill : MethodName := ⟨RL, "fill", "([II)I"⟩
abbrev cL_load : ByteArray := method_17_code
def yL_load : MethodName := ⟨RL, "load", "(LThermoscopeGallery;[I)Z"⟩
abbrev cL_free : ByteArray := method_18_code
def yL_free : MethodName := ⟨RL, "free", "([IIII)I"⟩
abbrev cL_all : ByteArray := method_19_code
def yL_all : MethodName := ⟨RL, "all", "(LThermoscopeGallery;[I)J"⟩
abbrev cL_dipped : ByteArray := method_20_code
def yL_dipped : MethodName := ⟨RL, "dipped", "(LThermoscopeGallery;II)I"⟩
abbrev cL_lifted : ByteArray := method_21_code
def yL_lifted : MethodName := ⟨RL, "lifted", "(LThermoscopeGallery;I)I"⟩
abbrev cL_marked : ByteArray := method_22_code
def yL_marked : MethodName := ⟨RL, "marked", "(LThermoscopeGallery;I)I"⟩
abbrev cL_topped : ByteArray := method_23_code
def yL_topped : MethodName := ⟨RL, "topped", "(LThermoscopeGallery;II)I"⟩
abbrev cL_act : ByteArray := method_24_code
def yL_act : MethodName := ⟨RL, "act", "(LThermoscopeGallery;[II)I"⟩
abbrev cL_holds : ByteArray := method_25_code
def yL_holds : MethodName := ⟨RL, "holds", "(LThermoscopeGallery;[I)Z"⟩
abbrev cL_told : ByteArray := method_26_code
def yL_told : MethodName := ⟨RL, "told", "(LThermoscopeGallery;II)I"⟩
abbrev cL_fit : ByteArray := method_27_code
def yL_fit : MethodName := ⟨RL, "fit", "(LThermoscopeGallery;I)I"⟩
abbrev cL_marking : ByteArray := method_28_code
def yL_marking : MethodName := ⟨RL, "marking", "(LThermoscopeGallery;[II)Z"⟩
abbrev cL_limit : ByteArray := method_29_code
def yL_limit : MethodName := ⟨RL, "limit", "(LThermoscopeGallery;[II)Z"⟩
abbrev cL_law : ByteArray := code
def yL_law : MethodName := ⟨RL, "law", "([I)Z"⟩
