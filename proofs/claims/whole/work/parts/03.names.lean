def RX0 : String := "FontShelf$Choice"
def TX0 : u_T := fun k => match k with
  | 0 => ("FontShelf$Choice", "wish", "[I", true)
  | _ => ("FontShelf$Choice", "pin", "I", false)
def tyX0 : Nat → FieldType := fun k => match k with
  | 0 => .array .int
  | _ => .int
abbrev wsX00 : List Cond := u_ws RX0 TX0 2
theorem nmX0 : ∀ a, a < 2 → ∀ b, b < 2 → a ≠ b → (TX0 a).2.1 ≠ (TX0 b).2.1 := by decide +kernel
theorem tyX0_ok : ∀ k, k < 2 → parseFieldDescriptor (TX0 k).2.2.1 = some (tyX0 k) := by decide +kernel
abbrev cX0_init : ByteArray := prog_2_method_1_code
def yX0_init : MethodName := ⟨RX0, "<init>", "()V"⟩
def RX1 : String := "FontShelf$Font"
def TX1 : u_T := fun k => match k with
  | 0 => ("FontShelf$Font", "id", "I", true)
  | 1 => ("FontShelf$Font", "attributes", "[I", true)
  | 2 => ("FontShelf$Font", "glyphs", "[LFontShelf$Glyph;", true)
  | 3 => ("FontShelf$Font", "isPermanent", "Z", false)
  | 4 => ("FontShelf$Font", "glyphCount", "I", false)
  | _ => ("FontShelf$Font", "byteCount", "I", false)
def tyX1 : Nat → FieldType := fun k => match k with
  | 0 => .int
  | 1 => .array .int
  | 2 => .array (.object "FontShelf$Glyph")
  | 3 => .boolean
  | 4 => .int
  | _ => .int
abbrev wsX10 : List Cond := u_ws RX1 TX1 6
theorem nmX1 : ∀ a, a < 6 → ∀ b, b < 6 → a ≠ b → (TX1 a).2.1 ≠ (TX1 b).2.1 := by decide +kernel
theorem tyX1_ok : ∀ k, k < 6 → parseFieldDescriptor (TX1 k).2.2.1 = some (tyX1 k) := by decide +kernel
abbrev cX1_init : ByteArray := prog_3_method_1_code
def yX1_init : MethodName := ⟨RX1, "<init>", "(I[I)V"⟩
abbrev cX1_glyphFor : ByteArray := prog_3_method_2_code
def yX1_glyphFor : MethodName := ⟨RX1, "glyphFor", "(I)LFontShelf$Glyph;"⟩
abbrev cX1_put : ByteArray := prog_3_method_3_code
def yX1_put : MethodName := ⟨RX1, "put", "(ILFontShelf$Glyph;)V"⟩
abbrev cX1_remove : ByteArray := prog_3_method_4_code
def yX1_remove : MethodName := ⟨RX1, "remove", "(I)Z"⟩
def RX2 : String := "FontShelf$Glyph"
def TX2 : u_T := fun k => match k with
  | 0 => ("FontShelf$Glyph", "left", "I", true)
  | 1 => ("FontShelf$Glyph", "top", "I", true)
  | 2 => ("FontShelf$Glyph", "width", "I", true)
  | 3 => ("FontShelf$Glyph", "depth", "I", true)
  | 4 => ("FontShelf$Glyph", "step", "I", true)
  | 5 => ("FontShelf$Glyph", "bytesInRow", "I", true)
  | 6 => ("FontShelf$Glyph", "longsInRow", "I", true)
  | 7 => ("FontShelf$Glyph", "dots", "[J", true)
  | _ => ("FontShelf$Glyph", "came", "I", false)
def tyX2 : Nat → FieldType := fun k => match k with
  | 0 => .int
  | 1 => .int
  | 2 => .int
  | 3 => .int
  | 4 => .int
  | 5 => .int
  | 6 => .int
  | 7 => .array .long
  | _ => .int
abbrev wsX20 : List Cond := u_ws RX2 TX2 9
theorem nmX2 : ∀ a, a < 9 → ∀ b, b < 9 → a ≠ b → (TX2 a).2.1 ≠ (TX2 b).2.1 := by decide +kernel
theorem tyX2_ok : ∀ k, k < 9 → parseFieldDescriptor (TX2 k).2.2.1 = some (tyX2 k) := by decide +kernel
abbrev cX2_init : ByteArray := prog_4_method_1_code
def yX2_init : MethodName := ⟨RX2, "<init>", "(IIIII)V"⟩
abbrev cX2_size : ByteArray := prog_4_method_2_code
def yX2_size : MethodName := ⟨RX2, "size", "()I"⟩
abbrev cX2_missing : ByteArray := prog_4_method_3_code
def yX2_missing : MethodName := ⟨RX2, "missing", "()I"⟩
abbrev cX2_addByte : ByteArray := prog_4_method_4_code
def yX2_addByte : MethodName := ⟨RX2, "addByte", "(I)V"⟩
abbrev cX2_blackDots : ByteArray := prog_4_method_5_code
def yX2_blackDots : MethodName := ⟨RX2, "blackDots", "()I"⟩
abbrev cX2_dotsAt : ByteArray := prog_4_method_6_code
def yX2_dotsAt : MethodName := ⟨RX2, "dotsAt", "(II)J"⟩
def RX3 : String := "FontShelf"
def TX3 : u_T := fun k => match k with
  | 0 => ("FontShelf", "shelf", "Ljava/util/ArrayList;", true)
  | 1 => ("FontShelf", "draft", "[I", true)
  | 2 => ("FontShelf", "choices", "[LFontShelf$Choice;", true)
  | 3 => ("FontShelf", "idAtHand", "I", false)
  | 4 => ("FontShelf", "codeAtHand", "I", false)
  | _ => ("FontShelf", "loading", "LFontShelf$Glyph;", false)
def tyX3 : Nat → FieldType := fun k => match k with
  | 0 => .object "java/util/ArrayList"
  | 1 => .array .int
  | 2 => .array (.object "FontShelf$Choice")
  | 3 => .int
  | 4 => .int
  | _ => .object "FontShelf$Glyph"
abbrev wsX30 : List Cond := u_ws RX3 TX3 6
theorem nmX3 : ∀ a, a < 6 → ∀ b, b < 6 → a ≠ b → (TX3 a).2.1 ≠ (TX3 b).2.1 := by decide +kernel
theorem tyX3_ok : ∀ k, k < 6 → parseFieldDescriptor (TX3 k).2.2.1 = some (tyX3 k) := by decide +kernel
abbrev cX3_init : ByteArray := prog_1_method_1_code
def yX3_init : MethodName := ⟨RX3, "<init>", "()V"⟩
abbrev cX3_hand : ByteArray := prog_1_method_2_code
def yX3_hand : MethodName := ⟨RX3, "hand", "(ZI)Z"⟩
abbrev cX3_attribute : ByteArray := prog_1_method_3_code
def yX3_attribute : MethodName := ⟨RX3, "attribute", "(ZIII)Z"⟩
abbrev cX3_header : ByteArray := prog_1_method_4_code
def yX3_header : MethodName := ⟨RX3, "header", "()I"⟩
abbrev cX3_glyph : ByteArray := prog_1_method_5_code
def yX3_glyph : MethodName := ⟨RX3, "glyph", "(IIIII)I"⟩
abbrev cX3_bytes : ByteArray := prog_1_method_6_code
def yX3_bytes : MethodName := ⟨RX3, "bytes", "(JI)Z"⟩
abbrev cX3_load : ByteArray := prog_1_method_7_code
def yX3_load : MethodName := ⟨RX3, "load", "()I"⟩
abbrev cX3_permanent : ByteArray := prog_1_method_8_code
def yX3_permanent : MethodName := ⟨RX3, "permanent", "(Z)Z"⟩
abbrev cX3_drop : ByteArray := prog_1_method_9_code
def yX3_drop : MethodName := ⟨RX3, "drop", "(I)I"⟩
abbrev cX3_pin : ByteArray := prog_1_method_10_code
def yX3_pin : MethodName := ⟨RX3, "pin", "(II)Z"⟩
abbrev cX3_chosen : ByteArray := prog_1_method_11_code
def yX3_chosen : MethodName := ⟨RX3, "chosen", "(I)I"⟩
abbrev cX3_font : ByteArray := prog_1_method_12_code
def yX3_font : MethodName := ⟨RX3, "font", "(II)I"⟩
abbrev cX3_of : ByteArray := prog_1_method_13_code
def yX3_of : MethodName := ⟨RX3, "of", "(III)I"⟩
abbrev cX3_row : ByteArray := prog_1_method_14_code
def yX3_row : MethodName := ⟨RX3, "row", "(IIII)J"⟩
abbrev cX3_wish : ByteArray := prog_1_method_15_code
def yX3_wish : MethodName := ⟨RX3, "wish", "(II)I"⟩
abbrev cX3_look : ByteArray := prog_1_method_16_code
def yX3_look : MethodName := ⟨RX3, "look", "(I)I"⟩
abbrev cX3_within : ByteArray := prog_1_method_17_code
def yX3_within : MethodName := ⟨RX3, "within", "(III)Z"⟩
abbrev cX3_isAttribute : ByteArray := prog_1_method_18_code
def yX3_isAttribute : MethodName := ⟨RX3, "isAttribute", "(I)Z"⟩
abbrev cX3_isAtHand : ByteArray := prog_1_method_19_code
def yX3_isAtHand : MethodName := ⟨RX3, "isAtHand", "(I)Z"⟩
abbrev cX3_placeOf : ByteArray := prog_1_method_20_code
def yX3_placeOf : MethodName := ⟨RX3, "placeOf", "(I)I"⟩
abbrev cX3_fontWith : ByteArray := prog_1_method_21_code
def yX3_fontWith : MethodName := ⟨RX3, "fontWith", "(I)LFontShelf$Font;"⟩
abbrev cX3_takeOut : ByteArray := prog_1_method_22_code
def yX3_takeOut : MethodName := ⟨RX3, "takeOut", "(I)I"⟩
abbrev cX3_dropAll : ByteArray := prog_1_method_23_code
def yX3_dropAll : MethodName := ⟨RX3, "dropAll", "()I"⟩
abbrev cX3_dropPassing : ByteArray := prog_1_method_24_code
def yX3_dropPassing : MethodName := ⟨RX3, "dropPassing", "()I"⟩
abbrev cX3_dropGlyph : ByteArray := prog_1_method_25_code
def yX3_dropGlyph : MethodName := ⟨RX3, "dropGlyph", "()I"⟩
abbrev cX3_glyphsInAll : ByteArray := prog_1_method_26_code
def yX3_glyphsInAll : MethodName := ⟨RX3, "glyphsInAll", "()I"⟩
abbrev cX3_bytesInAll : ByteArray := prog_1_method_27_code
def yX3_bytesInAll : MethodName := ⟨RX3, "bytesInAll", "()I"⟩
abbrev cX3_hasRoomFor : ByteArray := prog_1_method_28_code
def yX3_hasRoomFor : MethodName := ⟨RX3, "hasRoomFor", "(LFontShelf$Glyph;LFontShelf$Glyph;)Z"⟩
abbrev cX3_chosenGlyph : ByteArray := prog_1_method_29_code
def yX3_chosenGlyph : MethodName := ⟨RX3, "chosenGlyph", "(II)LFontShelf$Glyph;"⟩
abbrev cX3_chosenFont : ByteArray := prog_1_method_30_code
def yX3_chosenFont : MethodName := ⟨RX3, "chosenFont", "(I)LFontShelf$Font;"⟩
abbrev cX3_bestFor : ByteArray := prog_1_method_31_code
def yX3_bestFor : MethodName := ⟨RX3, "bestFor", "([I)LFontShelf$Font;"⟩
abbrev cX3_allFonts : ByteArray := prog_1_method_32_code
def yX3_allFonts : MethodName := ⟨RX3, "allFonts", "()I"⟩
abbrev cX3_isIn : ByteArray := prog_1_method_33_code
def yX3_isIn : MethodName := ⟨RX3, "isIn", "(II)Z"⟩
abbrev cX3_having : ByteArray := prog_1_method_34_code
def yX3_having : MethodName := ⟨RX3, "having", "(III)I"⟩
abbrev cX3_preferring : ByteArray := prog_1_method_35_code
def yX3_preferring : MethodName := ⟨RX3, "preferring", "(III)I"⟩
abbrev cX3_preferringPassing : ByteArray := prog_1_method_36_code
def yX3_preferringPassing : MethodName := ⟨RX3, "preferringPassing", "(I)I"⟩
abbrev cX3_leastFrom : ByteArray := prog_1_method_37_code
def yX3_leastFrom : MethodName := ⟨RX3, "leastFrom", "(III)I"⟩
abbrev cX3_greatestUpTo : ByteArray := prog_1_method_38_code
def yX3_greatestUpTo : MethodName := ⟨RX3, "greatestUpTo", "(III)I"⟩
abbrev cX3_nextUp : ByteArray := prog_1_method_39_code
def yX3_nextUp : MethodName := ⟨RX3, "nextUp", "(III)I"⟩
abbrev cX3_nextDown : ByteArray := prog_1_method_40_code
def yX3_nextDown : MethodName := ⟨RX3, "nextDown", "(III)I"⟩
abbrev cX3_nearestHeight : ByteArray := prog_1_method_41_code
def yX3_nearestHeight : MethodName := ⟨RX3, "nearestHeight", "(II)I"⟩
def RX4 : String := "FontShelfModel"
def TX4 : u_T := fun k => match k with
  | 0 => ("FontShelfModel", "thrown", "I", false)
  | 1 => ("FontShelfModel", "fonts", "I", false)
  | 2 => ("FontShelfModel", "ids", "[I", true)
  | 3 => ("FontShelfModel", "attributes", "[I", true)
  | 4 => ("FontShelfModel", "permanent", "[Z", true)
  | 5 => ("FontShelfModel", "glyphs", "I", false)
  | 6 => ("FontShelfModel", "glyph", "[I", true)
  | 7 => ("FontShelfModel", "used", "I", false)
  | 8 => ("FontShelfModel", "store", "[B", true)
  | 9 => ("FontShelfModel", "draft", "[I", true)
  | 10 => ("FontShelfModel", "wishes", "[I", true)
  | 11 => ("FontShelfModel", "pins", "[I", true)
  | 12 => ("FontShelfModel", "id", "I", false)
  | 13 => ("FontShelfModel", "code", "I", false)
  | 14 => ("FontShelfModel", "loading", "Z", false)
  | 15 => ("FontShelfModel", "coming", "[I", true)
  | 16 => ("FontShelfModel", "need", "I", false)
  | 17 => ("FontShelfModel", "came", "I", false)
  | 18 => ("FontShelfModel", "bytes", "[B", true)
  | _ => ("FontShelfModel", "left", "[Z", true)
def tyX4 : Nat → FieldType := fun k => match k with
  | 0 => .int
  | 1 => .int
  | 2 => .array .int
  | 3 => .array .int
  | 4 => .array .boolean
  | 5 => .int
  | 6 => .array .int
  | 7 => .int
  | 8 => .array .byte
  | 9 => .array .int
  | 10 => .array .int
  | 11 => .array .int
  | 12 => .int
  | 13 => .int
  | 14 => .boolean
  | 15 => .array .int
  | 16 => .int
  | 17 => .int
  | 18 => .array .byte
  | _ => .array .boolean
abbrev wsX40 : List Cond := u_ws RX4 TX4 20
theorem nmX4 : ∀ a, a < 20 → ∀ b, b < 20 → a ≠ b → (TX4 a).2.1 ≠ (TX4 b).2.1 := by decide +kernel
theorem tyX4_ok : ∀ k, k < 20 → parseFieldDescriptor (TX4 k).2.2.1 = some (tyX4 k) := by decide +kernel
abbrev cX4_init : ByteArray := prog_6_method_1_code
def yX4_init : MethodName := ⟨RX4, "<init>", "()V"⟩
abbrev cX4_thrown : ByteArray := prog_6_method_2_code
def yX4_thrown : MethodName := ⟨RX4, "thrown", "()I"⟩
abbrev cX4_fits : ByteArray := prog_6_method_3_code
def yX4_fits : MethodName := ⟨RX4, "fits", "(II)Z"⟩
abbrev cX4_hand : ByteArray := prog_6_method_4_code
def yX4_hand : MethodName := ⟨RX4, "hand", "(ZI)Z"⟩
abbrev cX4_attribute : ByteArray := prog_6_method_5_code
def yX4_attribute : MethodName := ⟨RX4, "attribute", "(ZIII)Z"⟩
abbrev cX4_fontOf : ByteArray := prog_6_method_6_code
def yX4_fontOf : MethodName := ⟨RX4, "fontOf", "(I)I"⟩
abbrev cX4_bytesOf : ByteArray := prog_6_method_7_code
def yX4_bytesOf : MethodName := ⟨RX4, "bytesOf", "(I)I"⟩
abbrev cX4_startOf : ByteArray := prog_6_method_8_code
def yX4_startOf : MethodName := ⟨RX4, "startOf", "(I)I"⟩
abbrev cX4_glyphOf : ByteArray := prog_6_method_9_code
def yX4_glyphOf : MethodName := ⟨RX4, "glyphOf", "(II)I"⟩
abbrev cX4_goGlyph : ByteArray := prog_6_method_10_code
def yX4_goGlyph : MethodName := ⟨RX4, "goGlyph", "(I)V"⟩
abbrev cX4_goFont : ByteArray := prog_6_method_11_code
def yX4_goFont : MethodName := ⟨RX4, "goFont", "(I)V"⟩
abbrev cX4_header : ByteArray := prog_6_method_12_code
def yX4_header : MethodName := ⟨RX4, "header", "()I"⟩
abbrev cX4_glyph : ByteArray := prog_6_method_13_code
def yX4_glyph : MethodName := ⟨RX4, "glyph", "(IIIII)I"⟩
abbrev cX4_bytes : ByteArray := prog_6_method_14_code
def yX4_bytes : MethodName := ⟨RX4, "bytes", "(JI)Z"⟩
abbrev cX4_byteOf : ByteArray := prog_6_method_15_code
def yX4_byteOf : MethodName := ⟨RX4, "byteOf", "(I)I"⟩
abbrev cX4_load : ByteArray := prog_6_method_16_code
def yX4_load : MethodName := ⟨RX4, "load", "()I"⟩
abbrev cX4_glyphsOf : ByteArray := prog_6_method_17_code
def yX4_glyphsOf : MethodName := ⟨RX4, "glyphsOf", "(I)I"⟩
abbrev cX4_permanent : ByteArray := prog_6_method_18_code
def yX4_permanent : MethodName := ⟨RX4, "permanent", "(Z)Z"⟩
abbrev cX4_drop : ByteArray := prog_6_method_19_code
def yX4_drop : MethodName := ⟨RX4, "drop", "(I)I"⟩
abbrev cX4_pin : ByteArray := prog_6_method_20_code
def yX4_pin : MethodName := ⟨RX4, "pin", "(II)Z"⟩
abbrev cX4_strike : ByteArray := prog_6_method_21_code
def yX4_strike : MethodName := ⟨RX4, "strike", "(II)Z"⟩
abbrev cX4_end : ByteArray := prog_6_method_22_code
def yX4_end : MethodName := ⟨RX4, "end", "(IIIZ)I"⟩
abbrev cX4_byPitch : ByteArray := prog_6_method_23_code
def yX4_byPitch : MethodName := ⟨RX4, "byPitch", "(I)V"⟩
abbrev cX4_byHeight : ByteArray := prog_6_method_24_code
def yX4_byHeight : MethodName := ⟨RX4, "byHeight", "(I)V"⟩
abbrev cX4_byWeight : ByteArray := prog_6_method_25_code
def yX4_byWeight : MethodName := ⟨RX4, "byWeight", "(I)V"⟩
abbrev cX4_choose : ByteArray := prog_6_method_26_code
def yX4_choose : MethodName := ⟨RX4, "choose", "(I)I"⟩
abbrev cX4_chosen : ByteArray := prog_6_method_27_code
def yX4_chosen : MethodName := ⟨RX4, "chosen", "(I)I"⟩
abbrev cX4_font : ByteArray := prog_6_method_28_code
def yX4_font : MethodName := ⟨RX4, "font", "(II)I"⟩
abbrev cX4_chosenGlyph : ByteArray := prog_6_method_29_code
def yX4_chosenGlyph : MethodName := ⟨RX4, "chosenGlyph", "(II)I"⟩
abbrev cX4_isBlack : ByteArray := prog_6_method_30_code
def yX4_isBlack : MethodName := ⟨RX4, "isBlack", "(III)Z"⟩
abbrev cX4_of : ByteArray := prog_6_method_31_code
def yX4_of : MethodName := ⟨RX4, "of", "(III)I"⟩
abbrev cX4_row : ByteArray := prog_6_method_32_code
def yX4_row : MethodName := ⟨RX4, "row", "(IIII)J"⟩
abbrev cX4_wish : ByteArray := prog_6_method_33_code
def yX4_wish : MethodName := ⟨RX4, "wish", "(II)I"⟩
abbrev cX4_look : ByteArray := prog_6_method_34_code
def yX4_look : MethodName := ⟨RX4, "look", "(I)I"⟩
def RJx145de : String := "java/io/Serializable"
def TJx145de : u_T := fun k => match k with
  | _ => ("", "", "", false)
def tyJx145de : Nat → FieldType := fun k => match k with
  | _ => .int
abbrev wsJx145de0 : List Cond := u_ws RJx145de TJx145de 0
theorem nmJx145de : ∀ a, a < 0 → ∀ b, b < 0 → a ≠ b → (TJx145de a).2.1 ≠ (TJx145de b).2.1 := by decide +kernel
theorem tyJx145de_ok : ∀ k, k < 0 → parseFieldDescriptor (TJx145de k).2.2.1 = some (tyJx145de k) := by decide +kernel
def RJx8e188 : String := "java/lang/Cloneable"
def TJx8e188 : u_T := fun k => match k with
  | _ => ("", "", "", false)
def tyJx8e188 : Nat → FieldType := fun k => match k with
  | _ => .int
abbrev wsJx8e1880 : List Cond := u_ws RJx8e188 TJx8e188 0
theorem nmJx8e188 : ∀ a, a < 0 → ∀ b, b < 0 → a ≠ b → (TJx8e188 a).2.1 ≠ (TJx8e188 b).2.1 := by decide +kernel
theorem tyJx8e188_ok : ∀ k, k < 0 → parseFieldDescriptor (TJx8e188 k).2.2.1 = some (tyJx8e188 k) := by decide +kernel
def RJ6 : String := "java/lang/Integer"
def TJ6 : u_T := fun k => match k with
  | _ => ("", "", "", false)
def tyJ6 : Nat → FieldType := fun k => match k with
  | _ => .int
abbrev wsJ60 : List Cond := u_ws RJ6 TJ6 0
theorem nmJ6 : ∀ a, a < 0 → ∀ b, b < 0 → a ≠ b → (TJ6 a).2.1 ≠ (TJ6 b).2.1 := by decide +kernel
theorem tyJ6_ok : ∀ k, k < 0 → parseFieldDescriptor (TJ6 k).2.2.1 = some (tyJ6 k) := by decide +kernel
abbrev cJ6_numberOfLeadingZeros_0f7a4 : ByteArray := prog_13_method_47_code
def yJ6_numberOfLeadingZeros_0f7a4 : MethodName := ⟨RJ6, "numberOfLeadingZeros", "(I)I"⟩
def RJxab1ab : String := "java/lang/Iterable"
def TJxab1ab : u_T := fun k => match k with
  | _ => ("", "", "", false)
def tyJxab1ab : Nat → FieldType := fun k => match k with
  | _ => .int
abbrev wsJxab1ab0 : List Cond := u_ws RJxab1ab TJxab1ab 0
theorem nmJxab1ab : ∀ a, a < 0 → ∀ b, b < 0 → a ≠ b → (TJxab1ab a).2.1 ≠ (TJxab1ab b).2.1 := by decide +kernel
theorem tyJxab1ab_ok : ∀ k, k < 0 → parseFieldDescriptor (TJxab1ab k).2.2.1 = some (tyJxab1ab k) := by decide +kernel
def RJ13 : String := "java/lang/Long"
def TJ13 : u_T := fun k => match k with
  | _ => ("", "", "", false)
def tyJ13 : Nat → FieldType := fun k => match k with
  | _ => .int
abbrev wsJ130 : List Cond := u_ws RJ13 TJ13 0
theorem nmJ13 : ∀ a, a < 0 → ∀ b, b < 0 → a ≠ b → (TJ13 a).2.1 ≠ (TJ13 b).2.1 := by decide +kernel
theorem tyJ13_ok : ∀ k, k < 0 → parseFieldDescriptor (TJ13 k).2.2.1 = some (tyJ13 k) := by decide +kernel
abbrev cJ13_bitCount_95d88 : ByteArray := prog_15_method_50_code
def yJ13_bitCount_95d88 : MethodName := ⟨RJ13, "bitCount", "(J)I"⟩
def RJ9 : String := "java/lang/Math"
def TJ9 : u_T := fun k => match k with
  | _ => ("", "", "", false)
def tyJ9 : Nat → FieldType := fun k => match k with
  | _ => .int
abbrev wsJ90 : List Cond := u_ws RJ9 TJ9 0
theorem nmJ9 : ∀ a, a < 0 → ∀ b, b < 0 → a ≠ b → (TJ9 a).2.1 ≠ (TJ9 b).2.1 := by decide +kernel
theorem tyJ9_ok : ∀ k, k < 0 → parseFieldDescriptor (TJ9 k).2.2.1 = some (tyJ9 k) := by decide +kernel
abbrev cJ9_max_7cf53 : ByteArray := prog_16_method_65_code
def yJ9_max_7cf53 : MethodName := ⟨RJ9, "max", "(II)I"⟩
abbrev cJ9_min_7cf53 : ByteArray := prog_16_method_69_code
def yJ9_min_7cf53 : MethodName := ⟨RJ9, "min", "(II)I"⟩
def RJ0 : String := "java/lang/String"
def TJ0 : u_T := fun k => match k with
  | _ => ("", "", "", false)
def tyJ0 : Nat → FieldType := fun k => match k with
  | _ => .int
abbrev wsJ00 : List Cond := u_ws RJ0 TJ0 0
theorem nmJ0 : ∀ a, a < 0 → ∀ b, b < 0 → a ≠ b → (TJ0 a).2.1 ≠ (TJ0 b).2.1 := by decide +kernel
theorem tyJ0_ok : ∀ k, k < 0 → parseFieldDescriptor (TJ0 k).2.2.1 = some (tyJ0 k) := by decide +kernel
def RJ10 : String := "java/lang/System"
def TJ10 : u_T := fun k => match k with
  | _ => ("", "", "", false)
def tyJ10 : Nat → FieldType := fun k => match k with
  | _ => .int
abbrev wsJ100 : List Cond := u_ws RJ10 TJ10 0
theorem nmJ10 : ∀ a, a < 0 → ∀ b, b < 0 → a ≠ b → (TJ10 a).2.1 ≠ (TJ10 b).2.1 := by decide +kernel
theorem tyJ10_ok : ∀ k, k < 0 → parseFieldDescriptor (TJ10 k).2.2.1 = some (tyJ10 k) := by decide +kernel
def RJxa1e45 : String := "java/util/AbstractCollection"
def TJxa1e45 : u_T := fun k => match k with
  | _ => ("", "", "", false)
def tyJxa1e45 : Nat → FieldType := fun k => match k with
  | _ => .int
abbrev wsJxa1e450 : List Cond := u_ws RJxa1e45 TJxa1e45 0
theorem nmJxa1e45 : ∀ a, a < 0 → ∀ b, b < 0 → a ≠ b → (TJxa1e45 a).2.1 ≠ (TJxa1e45 b).2.1 := by decide +kernel
theorem tyJxa1e45_ok : ∀ k, k < 0 → parseFieldDescriptor (TJxa1e45 k).2.2.1 = some (tyJxa1e45 k) := by decide +kernel
abbrev cJxa1e45_init_da8c8 : ByteArray := prog_22_method_1_code
def yJxa1e45_init_da8c8 : MethodName := ⟨RJxa1e45, "<init>", "()V"⟩
def RJxc12de : String := "java/util/AbstractList"
def TJxc12de : u_T := fun k => match k with
  | _ => ("", "", "", false)
def tyJxc12de : Nat → FieldType := fun k => match k with
  | _ => .int
abbrev wsJxc12de0 : List Cond := u_ws RJxc12de TJxc12de 0
theorem nmJxc12de : ∀ a, a < 0 → ∀ b, b < 0 → a ≠ b → (TJxc12de a).2.1 ≠ (TJxc12de b).2.1 := by decide +kernel
theorem tyJxc12de_ok : ∀ k, k < 0 → parseFieldDescriptor (TJxc12de k).2.2.1 = some (tyJxc12de k) := by decide +kernel
abbrev cJxc12de_init_da8c8 : ByteArray := prog_23_method_1_code
def yJxc12de_init_da8c8 : MethodName := ⟨RJxc12de, "<init>", "()V"⟩
def RJx4a65c : String := "java/util/ArrayList"
def TJx4a65c : u_T := fun k => match k with
  | 0 => ("java/util/AbstractList", "modCount", "I", false)
  | 1 => ("java/util/ArrayList", "elementData", "[Ljava/lang/Object;", false)
  | _ => ("java/util/ArrayList", "size", "I", false)
def tyJx4a65c : Nat → FieldType := fun k => match k with
  | 0 => .int
  | 1 => .array (.object "java/lang/Object")
  | _ => .int
abbrev wsJx4a65c0 : List Cond := u_ws RJx4a65c TJx4a65c 3
theorem nmJx4a65c : ∀ a, a < 3 → ∀ b, b < 3 → a ≠ b → (TJx4a65c a).2.1 ≠ (TJx4a65c b).2.1 := by decide +kernel
theorem tyJx4a65c_ok : ∀ k, k < 3 → parseFieldDescriptor (TJx4a65c k).2.2.1 = some (tyJx4a65c k) := by decide +kernel
abbrev cJx4a65c_init_da8c8 : ByteArray := prog_24_method_2_code
def yJx4a65c_init_da8c8 : MethodName := ⟨RJx4a65c, "<init>", "()V"⟩
abbrev cJx4a65c_grow_92f84 : ByteArray := prog_24_method_6_code
def yJx4a65c_grow_92f84 : MethodName := ⟨RJx4a65c, "grow", "(I)[Ljava/lang/Object;"⟩
abbrev cJx4a65c_grow_d5877 : ByteArray := prog_24_method_7_code
def yJx4a65c_grow_d5877 : MethodName := ⟨RJx4a65c, "grow", "()[Ljava/lang/Object;"⟩
abbrev cJx4a65c_size_8abf5 : ByteArray := prog_24_method_8_code
def yJx4a65c_size_8abf5 : MethodName := ⟨RJx4a65c, "size", "()I"⟩
abbrev cJx4a65c_elementData_915e3 : ByteArray := prog_24_method_18_code
def yJx4a65c_elementData_915e3 : MethodName := ⟨RJx4a65c, "elementData", "(I)Ljava/lang/Object;"⟩
abbrev cJx4a65c_get_915e3 : ByteArray := prog_24_method_20_code
def yJx4a65c_get_915e3 : MethodName := ⟨RJx4a65c, "get", "(I)Ljava/lang/Object;"⟩
abbrev cJx4a65c_add_72be8 : ByteArray := prog_24_method_24_code
def yJx4a65c_add_72be8 : MethodName := ⟨RJx4a65c, "add", "(Ljava/lang/Object;[Ljava/lang/Object;I)V"⟩
abbrev cJx4a65c_add_9ea2d : ByteArray := prog_24_method_25_code
def yJx4a65c_add_9ea2d : MethodName := ⟨RJx4a65c, "add", "(Ljava/lang/Object;)Z"⟩
abbrev cJx4a65c_remove_915e3 : ByteArray := prog_24_method_29_code
def yJx4a65c_remove_915e3 : MethodName := ⟨RJx4a65c, "remove", "(I)Ljava/lang/Object;"⟩
abbrev cJx4a65c_fastRemove_b59b0 : ByteArray := prog_24_method_39_code
def yJx4a65c_fastRemove_b59b0 : MethodName := ⟨RJx4a65c, "fastRemove", "([Ljava/lang/Object;I)V"⟩
abbrev cJx4a65c_clear_da8c8 : ByteArray := prog_24_method_40_code
def yJx4a65c_clear_da8c8 : MethodName := ⟨RJx4a65c, "clear", "()V"⟩
def RJ7 : String := "java/util/Arrays"
def TJ7 : u_T := fun k => match k with
  | _ => ("", "", "", false)
def tyJ7 : Nat → FieldType := fun k => match k with
  | _ => .int
abbrev wsJ70 : List Cond := u_ws RJ7 TJ7 0
theorem nmJ7 : ∀ a, a < 0 → ∀ b, b < 0 → a ≠ b → (TJ7 a).2.1 ≠ (TJ7 b).2.1 := by decide +kernel
theorem tyJ7_ok : ∀ k, k < 0 → parseFieldDescriptor (TJ7 k).2.2.1 = some (tyJ7 k) := by decide +kernel
abbrev cJ7_copyOf_1904c : ByteArray := prog_25_method_119_code
def yJ7_copyOf_1904c : MethodName := ⟨RJ7, "copyOf", "([Ljava/lang/Object;I)[Ljava/lang/Object;"⟩
abbrev cJ7_copyOf_6403c : ByteArray := prog_25_method_120_code
def yJ7_copyOf_6403c : MethodName := ⟨RJ7, "copyOf", "([Ljava/lang/Object;ILjava/lang/Class;)[Ljava/lang/Object;"⟩
def RJx5ef63 : String := "java/util/Collection"
def TJx5ef63 : u_T := fun k => match k with
  | _ => ("", "", "", false)
def tyJx5ef63 : Nat → FieldType := fun k => match k with
  | _ => .int
abbrev wsJx5ef630 : List Cond := u_ws RJx5ef63 TJx5ef63 0
theorem nmJx5ef63 : ∀ a, a < 0 → ∀ b, b < 0 → a ≠ b → (TJx5ef63 a).2.1 ≠ (TJx5ef63 b).2.1 := by decide +kernel
theorem tyJx5ef63_ok : ∀ k, k < 0 → parseFieldDescriptor (TJx5ef63 k).2.2.1 = some (tyJx5ef63 k) := by decide +kernel
def RJxbd725 : String := "java/util/List"
def TJxbd725 : u_T := fun k => match k with
  | _ => ("", "", "", false)
def tyJxbd725 : Nat → FieldType := fun k => match k with
  | _ => .int
abbrev wsJxbd7250 : List Cond := u_ws RJxbd725 TJxbd725 0
theorem nmJxbd725 : ∀ a, a < 0 → ∀ b, b < 0 → a ≠ b → (TJxbd725 a).2.1 ≠ (TJxbd725 b).2.1 := by decide +kernel
theorem tyJxbd725_ok : ∀ k, k < 0 → parseFieldDescriptor (TJxbd725 k).2.2.1 = some (tyJxbd725 k) := by decide +kernel
def RJ15 : String := "java/util/Objects"
def TJ15 : u_T := fun k => match k with
  | _ => ("", "", "", false)
def tyJ15 : Nat → FieldType := fun k => match k with
  | _ => .int
abbrev wsJ150 : List Cond := u_ws RJ15 TJ15 0
theorem nmJ15 : ∀ a, a < 0 → ∀ b, b < 0 → a ≠ b → (TJ15 a).2.1 ≠ (TJ15 b).2.1 := by decide +kernel
theorem tyJ15_ok : ∀ k, k < 0 → parseFieldDescriptor (TJ15 k).2.2.1 = some (tyJ15 k) := by decide +kernel
abbrev cJ15_checkIndex_7cf53 : ByteArray := prog_28_method_17_code
def yJ15_checkIndex_7cf53 : MethodName := ⟨RJ15, "checkIndex", "(II)I"⟩
def RJxf0a74 : String := "java/util/RandomAccess"
def TJxf0a74 : u_T := fun k => match k with
  | _ => ("", "", "", false)
def tyJxf0a74 : Nat → FieldType := fun k => match k with
  | _ => .int
abbrev wsJxf0a740 : List Cond := u_ws RJxf0a74 TJxf0a74 0
theorem nmJxf0a74 : ∀ a, a < 0 → ∀ b, b < 0 → a ≠ b → (TJxf0a74 a).2.1 ≠ (TJxf0a74 b).2.1 := by decide +kernel
theorem tyJxf0a74_ok : ∀ k, k < 0 → parseFieldDescriptor (TJxf0a74 k).2.2.1 = some (tyJxf0a74 k) := by decide +kernel
def RJxa66e6 : String := "java/util/SequencedCollection"
def TJxa66e6 : u_T := fun k => match k with
  | _ => ("", "", "", false)
def tyJxa66e6 : Nat → FieldType := fun k => match k with
  | _ => .int
abbrev wsJxa66e60 : List Cond := u_ws RJxa66e6 TJxa66e6 0
theorem nmJxa66e6 : ∀ a, a < 0 → ∀ b, b < 0 → a ≠ b → (TJxa66e6 a).2.1 ≠ (TJxa66e6 b).2.1 := by decide +kernel
theorem tyJxa66e6_ok : ∀ k, k < 0 → parseFieldDescriptor (TJxa66e6 k).2.2.1 = some (tyJxa66e6 k) := by decide +kernel
def RJ8 : String := "jdk/internal/util/ArraysSupport"
def TJ8 : u_T := fun k => match k with
  | _ => ("", "", "", false)
def tyJ8 : Nat → FieldType := fun k => match k with
  | _ => .int
abbrev wsJ80 : List Cond := u_ws RJ8 TJ8 0
theorem nmJ8 : ∀ a, a < 0 → ∀ b, b < 0 → a ≠ b → (TJ8 a).2.1 ≠ (TJ8 b).2.1 := by decide +kernel
theorem tyJ8_ok : ∀ k, k < 0 → parseFieldDescriptor (TJ8 k).2.2.1 = some (tyJ8 k) := by decide +kernel
abbrev cJ8_newLength_cabcc : ByteArray := prog_31_method_27_code
def yJ8_newLength_cabcc : MethodName := ⟨RJ8, "newLength", "(III)I"⟩
abbrev cJ8_hugeLength_7cf53 : ByteArray := prog_31_method_28_code
def yJ8_hugeLength_7cf53 : MethodName := ⟨RJ8, "hugeLength", "(II)I"⟩
def RJ3 : String := "jdk/internal/util/Preconditions"
def TJ3 : u_T := fun k => match k with
  | _ => ("", "", "", false)
def tyJ3 : Nat → FieldType := fun k => match k with
  | _ => .int
abbrev wsJ30 : List Cond := u_ws RJ3 TJ3 0
theorem nmJ3 : ∀ a, a < 0 → ∀ b, b < 0 → a ≠ b → (TJ3 a).2.1 ≠ (TJ3 b).2.1 := by decide +kernel
theorem tyJ3_ok : ∀ k, k < 0 → parseFieldDescriptor (TJ3 k).2.2.1 = some (tyJ3 k) := by decide +kernel
abbrev cJ3_checkIndex_8e157 : ByteArray := prog_32_method_11_code
def yJ3_checkIndex_8e157 : MethodName := ⟨RJ3, "checkIndex", "(IILjava/util/function/BiFunction;)I"⟩
def RL : String := "FontShelfLaw"
abbrev cL_header : ByteArray := method_3_code
def yL_header : MethodName := ⟨RL, "header", "(LFontShelf;[J)I"⟩
abbrev cL_glyph : ByteArray := method_4_code
def yL_glyph : MethodName := ⟨RL, "glyph", "(LFontShelf;IIIII[J)I"⟩
abbrev cL_load : ByteArray := method_5_code
def yL_load : MethodName := ⟨RL, "load", "(LFontShelf;[J)I"⟩
abbrev cL_drop : ByteArray := method_6_code
def yL_drop : MethodName := ⟨RL, "drop", "(LFontShelf;I[J)I"⟩
abbrev cL_font : ByteArray := method_7_code
def yL_font : MethodName := ⟨RL, "font", "(LFontShelf;II[J)I"⟩
abbrev cL_of : ByteArray := method_8_code
def yL_of : MethodName := ⟨RL, "of", "(LFontShelf;III[J)I"⟩
abbrev cL_wish : ByteArray := method_9_code
def yL_wish : MethodName := ⟨RL, "wish", "(LFontShelf;II[J)I"⟩
abbrev cL_law : ByteArray := code
def yL_law : MethodName := ⟨RL, "law", "([I)Z"⟩
abbrev vwCl : List vw_C := [(RJx4a65c, TJx4a65c, 3), (RX0, TX0, 2), (RX1, TX1, 6), (RX2, TX2, 9), (RX3, TX3, 6), (RX4, TX4, 20)]
