def RX0 : String := "SealedStream$Cipher"
def RX1 : String := "SealedStream$Galois"
def RX2 : String := "SealedStream"
def RX3 : String := "SealedStreamModel"
def RL : String := "SealedStreamLaw"
def TX0 : u_T := fun k => match k with
  | 0 => ("SealedStream$Cipher", "subst", "[I", true)
  | 1 => ("SealedStream$Cipher", "unsubst", "[I", true)
  | 2 => ("SealedStream$Cipher", "words", "[I", true)
  | 3 => ("SealedStream$Cipher", "block", "[I", true)
  | _ => ("SealedStream$Cipher", "before", "[I", true)
def tyX0 : Nat → FieldType := fun k => match k with
  | 0 => .array .int
  | 1 => .array .int
  | 2 => .array .int
  | 3 => .array .int
  | _ => .array .int
theorem nmX0 : ∀ a, a < 5 → ∀ b, b < 5 → a ≠ b → (TX0 a).2.1 ≠ (TX0 b).2.1 := by decide +kernel
theorem defX0 : ∀ j, j < 5 → defaultValue (tyX0 j) = vp_V [.null, .null, .null, .null, .null] j := fun j hj => by
  rcases (show j = 0 ∨ j = 1 ∨ j = 2 ∨ j = 3 ∨ j = 4 by omega) with rfl | rfl | rfl | rfl | rfl <;> rfl
theorem tyX0_ok : ∀ k, k < 5 → parseFieldDescriptor (TX0 k).2.2.1 = some (tyX0 k) := by decide +kernel
def TX1 : u_T := fun k => match k with
  | 0 => ("SealedStream$Galois", "high", "J", false)
  | _ => ("SealedStream$Galois", "low", "J", false)
def tyX1 : Nat → FieldType := fun k => match k with
  | 0 => .long
  | _ => .long
theorem nmX1 : ∀ a, a < 2 → ∀ b, b < 2 → a ≠ b → (TX1 a).2.1 ≠ (TX1 b).2.1 := by decide +kernel
theorem defX1 : ∀ j, j < 2 → defaultValue (tyX1 j) = vp_V [.long (lN 0), .long (lN 0)] j := fun j hj => by
  rcases (show j = 0 ∨ j = 1 by omega) with rfl | rfl <;> rfl
theorem tyX1_ok : ∀ k, k < 2 → parseFieldDescriptor (TX1 k).2.2.1 = some (tyX1 k) := by decide +kernel
def TX2 : u_T := fun k => match k with
  | 0 => ("SealedStream", "cipher", "LSealedStream$Cipher;", true)
  | 1 => ("SealedStream", "galois", "LSealedStream$Galois;", true)
  | 2 => ("SealedStream", "asideBytes", "[I", true)
  | 3 => ("SealedStream", "textBytes", "[I", true)
  | 4 => ("SealedStream", "mask", "[I", true)
  | 5 => ("SealedStream", "phase", "I", false)
  | 6 => ("SealedStream", "opens", "Z", false)
  | 7 => ("SealedStream", "nonceHead", "J", false)
  | 8 => ("SealedStream", "nonceRest", "I", false)
  | 9 => ("SealedStream", "asideCount", "I", false)
  | 10 => ("SealedStream", "textCount", "I", false)
  | 11 => ("SealedStream", "maskBlock", "I", false)
  | 12 => ("SealedStream", "tagHigh", "J", false)
  | _ => ("SealedStream", "tagLow", "J", false)
def tyX2 : Nat → FieldType := fun k => match k with
  | 0 => .object "SealedStream$Cipher"
  | 1 => .object "SealedStream$Galois"
  | 2 => .array .int
  | 3 => .array .int
  | 4 => .array .int
  | 5 => .int
  | 6 => .boolean
  | 7 => .long
  | 8 => .int
  | 9 => .int
  | 10 => .int
  | 11 => .int
  | 12 => .long
  | _ => .long
theorem nmX2 : ∀ a, a < 14 → ∀ b, b < 14 → a ≠ b → (TX2 a).2.1 ≠ (TX2 b).2.1 := by decide +kernel
theorem defX2 : ∀ j, j < 14 → defaultValue (tyX2 j) = vp_V [.null, .null, .null, .null, .null, .int (nI 0), .int (nI 0), .long (lN 0), .int (nI 0), .int (nI 0), .int (nI 0), .int (nI 0), .long (lN 0), .long (lN 0)] j := fun j hj => by
  rcases (show j = 0 ∨ j = 1 ∨ j = 2 ∨ j = 3 ∨ j = 4 ∨ j = 5 ∨ j = 6 ∨ j = 7 ∨ j = 8 ∨ j = 9 ∨ j = 10 ∨ j = 11 ∨ j = 12 ∨ j = 13 by omega) with rfl | rfl | rfl | rfl | rfl | rfl | rfl | rfl | rfl | rfl | rfl | rfl | rfl | rfl <;> rfl
theorem tyX2_ok : ∀ k, k < 14 → parseFieldDescriptor (TX2 k).2.2.1 = some (tyX2 k) := by decide +kernel
def TX3 : u_T := fun k => match k with
  | 0 => ("SealedStreamModel", "thrown", "I", false)
  | 1 => ("SealedStreamModel", "phase", "I", false)
  | 2 => ("SealedStreamModel", "opening", "Z", false)
  | 3 => ("SealedStreamModel", "box", "[I", true)
  | 4 => ("SealedStreamModel", "back", "[I", true)
  | 5 => ("SealedStreamModel", "words", "[I", true)
  | 6 => ("SealedStreamModel", "block", "[I", true)
  | 7 => ("SealedStreamModel", "next", "[I", true)
  | 8 => ("SealedStreamModel", "high", "J", false)
  | 9 => ("SealedStreamModel", "low", "J", false)
  | 10 => ("SealedStreamModel", "nonce", "J", false)
  | 11 => ("SealedStreamModel", "rest", "I", false)
  | 12 => ("SealedStreamModel", "asides", "I", false)
  | 13 => ("SealedStreamModel", "beside", "[I", true)
  | 14 => ("SealedStreamModel", "size", "I", false)
  | 15 => ("SealedStreamModel", "given", "[I", true)
  | 16 => ("SealedStreamModel", "tagHigh", "J", false)
  | _ => ("SealedStreamModel", "tagLow", "J", false)
def tyX3 : Nat → FieldType := fun k => match k with
  | 0 => .int
  | 1 => .int
  | 2 => .boolean
  | 3 => .array .int
  | 4 => .array .int
  | 5 => .array .int
  | 6 => .array .int
  | 7 => .array .int
  | 8 => .long
  | 9 => .long
  | 10 => .long
  | 11 => .int
  | 12 => .int
  | 13 => .array .int
  | 14 => .int
  | 15 => .array .int
  | 16 => .long
  | _ => .long
theorem nmX3 : ∀ a, a < 18 → ∀ b, b < 18 → a ≠ b → (TX3 a).2.1 ≠ (TX3 b).2.1 := by decide +kernel
theorem defX3 : ∀ j, j < 18 → defaultValue (tyX3 j) = vp_V [.int (nI 0), .int (nI 0), .int (nI 0), .null, .null, .null, .null, .null, .long (lN 0), .long (lN 0), .long (lN 0), .int (nI 0), .int (nI 0), .null, .int (nI 0), .null, .long (lN 0), .long (lN 0)] j := fun j hj => by
  rcases (show j = 0 ∨ j = 1 ∨ j = 2 ∨ j = 3 ∨ j = 4 ∨ j = 5 ∨ j = 6 ∨ j = 7 ∨ j = 8 ∨ j = 9 ∨ j = 10 ∨ j = 11 ∨ j = 12 ∨ j = 13 ∨ j = 14 ∨ j = 15 ∨ j = 16 ∨ j = 17 by omega) with rfl | rfl | rfl | rfl | rfl | rfl | rfl | rfl | rfl | rfl | rfl | rfl | rfl | rfl | rfl | rfl | rfl | rfl <;> rfl
theorem tyX3_ok : ∀ k, k < 18 → parseFieldDescriptor (TX3 k).2.2.1 = some (tyX3 k) := by decide +kernel
abbrev vwCl : List vw_C := [(RX0, TX0, 5), (RX1, TX1, 2), (RX2, TX2, 14), (RX3, TX3, 18)]
abbrev cX2_init : ByteArray := prog_1_method_1_code
def yX2_init : MethodName := ⟨RX2, "<init>", "()V"⟩
theorem dyX2_init : yX2_init.cls ≠ "java/lang/invoke/MethodHandle" ∧ yX2_init.cls ≠ "java/lang/invoke/VarHandle" ∧ (parseMethodDescriptor yX2_init.desc).map (fun d => d.parameters.length) = some 0 := by decide +kernel
abbrev cX2_key : ByteArray := prog_1_method_2_code
def yX2_key : MethodName := ⟨RX2, "key", "(JJ)V"⟩
theorem dyX2_key : yX2_key.cls ≠ "java/lang/invoke/MethodHandle" ∧ yX2_key.cls ≠ "java/lang/invoke/VarHandle" ∧ (parseMethodDescriptor yX2_key.desc).map (fun d => d.parameters.length) = some 2 := by decide +kernel
abbrev cX2_word : ByteArray := prog_1_method_3_code
def yX2_word : MethodName := ⟨RX2, "word", "(I)I"⟩
theorem dyX2_word : yX2_word.cls ≠ "java/lang/invoke/MethodHandle" ∧ yX2_word.cls ≠ "java/lang/invoke/VarHandle" ∧ (parseMethodDescriptor yX2_word.desc).map (fun d => d.parameters.length) = some 1 := by decide +kernel
abbrev cX2_encrypt : ByteArray := prog_1_method_4_code
def yX2_encrypt : MethodName := ⟨RX2, "encrypt", "(JJZ)J"⟩
theorem dyX2_encrypt : yX2_encrypt.cls ≠ "java/lang/invoke/MethodHandle" ∧ yX2_encrypt.cls ≠ "java/lang/invoke/VarHandle" ∧ (parseMethodDescriptor yX2_encrypt.desc).map (fun d => d.parameters.length) = some 3 := by decide +kernel
abbrev cX2_decrypt : ByteArray := prog_1_method_5_code
def yX2_decrypt : MethodName := ⟨RX2, "decrypt", "(JJZ)J"⟩
theorem dyX2_decrypt : yX2_decrypt.cls ≠ "java/lang/invoke/MethodHandle" ∧ yX2_decrypt.cls ≠ "java/lang/invoke/VarHandle" ∧ (parseMethodDescriptor yX2_decrypt.desc).map (fun d => d.parameters.length) = some 3 := by decide +kernel
abbrev cX2_product : ByteArray := prog_1_method_6_code
def yX2_product : MethodName := ⟨RX2, "product", "(JJJJZ)J"⟩
theorem dyX2_product : yX2_product.cls ≠ "java/lang/invoke/MethodHandle" ∧ yX2_product.cls ≠ "java/lang/invoke/VarHandle" ∧ (parseMethodDescriptor yX2_product.desc).map (fun d => d.parameters.length) = some 5 := by decide +kernel
abbrev cX2_start : ByteArray := prog_1_method_7_code
def yX2_start : MethodName := ⟨RX2, "start", "(ZJI)V"⟩
theorem dyX2_start : yX2_start.cls ≠ "java/lang/invoke/MethodHandle" ∧ yX2_start.cls ≠ "java/lang/invoke/VarHandle" ∧ (parseMethodDescriptor yX2_start.desc).map (fun d => d.parameters.length) = some 3 := by decide +kernel
abbrev cX2_aside : ByteArray := prog_1_method_8_code
def yX2_aside : MethodName := ⟨RX2, "aside", "(JI)I"⟩
theorem dyX2_aside : yX2_aside.cls ≠ "java/lang/invoke/MethodHandle" ∧ yX2_aside.cls ≠ "java/lang/invoke/VarHandle" ∧ (parseMethodDescriptor yX2_aside.desc).map (fun d => d.parameters.length) = some 2 := by decide +kernel
abbrev cX2_text : ByteArray := prog_1_method_9_code
def yX2_text : MethodName := ⟨RX2, "text", "(JI)J"⟩
theorem dyX2_text : yX2_text.cls ≠ "java/lang/invoke/MethodHandle" ∧ yX2_text.cls ≠ "java/lang/invoke/VarHandle" ∧ (parseMethodDescriptor yX2_text.desc).map (fun d => d.parameters.length) = some 2 := by decide +kernel
abbrev cX2_seal : ByteArray := prog_1_method_10_code
def yX2_seal : MethodName := ⟨RX2, "seal", "()I"⟩
theorem dyX2_seal : yX2_seal.cls ≠ "java/lang/invoke/MethodHandle" ∧ yX2_seal.cls ≠ "java/lang/invoke/VarHandle" ∧ (parseMethodDescriptor yX2_seal.desc).map (fun d => d.parameters.length) = some 0 := by decide +kernel
abbrev cX2_open : ByteArray := prog_1_method_11_code
def yX2_open : MethodName := ⟨RX2, "open", "(JJ)Z"⟩
theorem dyX2_open : yX2_open.cls ≠ "java/lang/invoke/MethodHandle" ∧ yX2_open.cls ≠ "java/lang/invoke/VarHandle" ∧ (parseMethodDescriptor yX2_open.desc).map (fun d => d.parameters.length) = some 2 := by decide +kernel
abbrev cX2_tag : ByteArray := prog_1_method_12_code
def yX2_tag : MethodName := ⟨RX2, "tag", "(Z)J"⟩
theorem dyX2_tag : yX2_tag.cls ≠ "java/lang/invoke/MethodHandle" ∧ yX2_tag.cls ≠ "java/lang/invoke/VarHandle" ∧ (parseMethodDescriptor yX2_tag.desc).map (fun d => d.parameters.length) = some 1 := by decide +kernel
abbrev cX2_length : ByteArray := prog_1_method_13_code
def yX2_length : MethodName := ⟨RX2, "length", "()I"⟩
theorem dyX2_length : yX2_length.cls ≠ "java/lang/invoke/MethodHandle" ∧ yX2_length.cls ≠ "java/lang/invoke/VarHandle" ∧ (parseMethodDescriptor yX2_length.desc).map (fun d => d.parameters.length) = some 0 := by decide +kernel
abbrev cX2_at : ByteArray := prog_1_method_14_code
def yX2_at : MethodName := ⟨RX2, "at", "(I)I"⟩
theorem dyX2_at : yX2_at.cls ≠ "java/lang/invoke/MethodHandle" ∧ yX2_at.cls ≠ "java/lang/invoke/VarHandle" ∧ (parseMethodDescriptor yX2_at.desc).map (fun d => d.parameters.length) = some 1 := by decide +kernel
abbrev cX2_phase : ByteArray := prog_1_method_15_code
def yX2_phase : MethodName := ⟨RX2, "phase", "()I"⟩
theorem dyX2_phase : yX2_phase.cls ≠ "java/lang/invoke/MethodHandle" ∧ yX2_phase.cls ≠ "java/lang/invoke/VarHandle" ∧ (parseMethodDescriptor yX2_phase.desc).map (fun d => d.parameters.length) = some 0 := by decide +kernel
abbrev cX2_isUnderWay : ByteArray := prog_1_method_16_code
def yX2_isUnderWay : MethodName := ⟨RX2, "isUnderWay", "()Z"⟩
theorem dyX2_isUnderWay : yX2_isUnderWay.cls ≠ "java/lang/invoke/MethodHandle" ∧ yX2_isUnderWay.cls ≠ "java/lang/invoke/VarHandle" ∧ (parseMethodDescriptor yX2_isUnderWay.desc).map (fun d => d.parameters.length) = some 0 := by decide +kernel
abbrev cX2_isReadable : ByteArray := prog_1_method_17_code
def yX2_isReadable : MethodName := ⟨RX2, "isReadable", "()Z"⟩
theorem dyX2_isReadable : yX2_isReadable.cls ≠ "java/lang/invoke/MethodHandle" ∧ yX2_isReadable.cls ≠ "java/lang/invoke/VarHandle" ∧ (parseMethodDescriptor yX2_isReadable.desc).map (fun d => d.parameters.length) = some 0 := by decide +kernel
abbrev cX2_checkPiece : ByteArray := prog_1_method_18_code
def yX2_checkPiece : MethodName := ⟨RX2, "checkPiece", "(III)V"⟩
theorem dyX2_checkPiece : yX2_checkPiece.cls ≠ "java/lang/invoke/MethodHandle" ∧ yX2_checkPiece.cls ≠ "java/lang/invoke/VarHandle" ∧ (parseMethodDescriptor yX2_checkPiece.desc).map (fun d => d.parameters.length) = some 3 := by decide +kernel
abbrev cX2_pieceByte : ByteArray := prog_1_method_19_code
def yX2_pieceByte : MethodName := ⟨RX2, "pieceByte", "(JI)I"⟩
theorem dyX2_pieceByte : yX2_pieceByte.cls ≠ "java/lang/invoke/MethodHandle" ∧ yX2_pieceByte.cls ≠ "java/lang/invoke/VarHandle" ∧ (parseMethodDescriptor yX2_pieceByte.desc).map (fun d => d.parameters.length) = some 2 := by decide +kernel
abbrev cX2_takePlain : ByteArray := prog_1_method_20_code
def yX2_takePlain : MethodName := ⟨RX2, "takePlain", "(JI)J"⟩
theorem dyX2_takePlain : yX2_takePlain.cls ≠ "java/lang/invoke/MethodHandle" ∧ yX2_takePlain.cls ≠ "java/lang/invoke/VarHandle" ∧ (parseMethodDescriptor yX2_takePlain.desc).map (fun d => d.parameters.length) = some 2 := by decide +kernel
abbrev cX2_takeSealed : ByteArray := prog_1_method_21_code
def yX2_takeSealed : MethodName := ⟨RX2, "takeSealed", "(JI)J"⟩
theorem dyX2_takeSealed : yX2_takeSealed.cls ≠ "java/lang/invoke/MethodHandle" ∧ yX2_takeSealed.cls ≠ "java/lang/invoke/VarHandle" ∧ (parseMethodDescriptor yX2_takeSealed.desc).map (fun d => d.parameters.length) = some 2 := by decide +kernel
abbrev cX2_unmaskText : ByteArray := prog_1_method_22_code
def yX2_unmaskText : MethodName := ⟨RX2, "unmaskText", "()V"⟩
theorem dyX2_unmaskText : yX2_unmaskText.cls ≠ "java/lang/invoke/MethodHandle" ∧ yX2_unmaskText.cls ≠ "java/lang/invoke/VarHandle" ∧ (parseMethodDescriptor yX2_unmaskText.desc).map (fun d => d.parameters.length) = some 0 := by decide +kernel
abbrev cX2_maskByte : ByteArray := prog_1_method_23_code
def yX2_maskByte : MethodName := ⟨RX2, "maskByte", "(I)I"⟩
theorem dyX2_maskByte : yX2_maskByte.cls ≠ "java/lang/invoke/MethodHandle" ∧ yX2_maskByte.cls ≠ "java/lang/invoke/VarHandle" ∧ (parseMethodDescriptor yX2_maskByte.desc).map (fun d => d.parameters.length) = some 1 := by decide +kernel
abbrev cX2_encipherNonce : ByteArray := prog_1_method_24_code
def yX2_encipherNonce : MethodName := ⟨RX2, "encipherNonce", "(I)V"⟩
theorem dyX2_encipherNonce : yX2_encipherNonce.cls ≠ "java/lang/invoke/MethodHandle" ∧ yX2_encipherNonce.cls ≠ "java/lang/invoke/VarHandle" ∧ (parseMethodDescriptor yX2_encipherNonce.desc).map (fun d => d.parameters.length) = some 1 := by decide +kernel
abbrev cX2_reckonTag : ByteArray := prog_1_method_25_code
def yX2_reckonTag : MethodName := ⟨RX2, "reckonTag", "()V"⟩
theorem dyX2_reckonTag : yX2_reckonTag.cls ≠ "java/lang/invoke/MethodHandle" ∧ yX2_reckonTag.cls ≠ "java/lang/invoke/VarHandle" ∧ (parseMethodDescriptor yX2_reckonTag.desc).map (fun d => d.parameters.length) = some 0 := by decide +kernel
abbrev cX2_foldRow : ByteArray := prog_1_method_26_code
def yX2_foldRow : MethodName := ⟨RX2, "foldRow", "([IIJJ)V"⟩
theorem dyX2_foldRow : yX2_foldRow.cls ≠ "java/lang/invoke/MethodHandle" ∧ yX2_foldRow.cls ≠ "java/lang/invoke/VarHandle" ∧ (parseMethodDescriptor yX2_foldRow.desc).map (fun d => d.parameters.length) = some 4 := by decide +kernel
abbrev cX2_joinBytes : ByteArray := prog_1_method_27_code
def yX2_joinBytes : MethodName := ⟨RX2, "joinBytes", "([III)J"⟩
theorem dyX2_joinBytes : yX2_joinBytes.cls ≠ "java/lang/invoke/MethodHandle" ∧ yX2_joinBytes.cls ≠ "java/lang/invoke/VarHandle" ∧ (parseMethodDescriptor yX2_joinBytes.desc).map (fun d => d.parameters.length) = some 3 := by decide +kernel
abbrev cX3_init : ByteArray := prog_5_method_1_code
def yX3_init : MethodName := ⟨RX3, "<init>", "()V"⟩
theorem dyX3_init : yX3_init.cls ≠ "java/lang/invoke/MethodHandle" ∧ yX3_init.cls ≠ "java/lang/invoke/VarHandle" ∧ (parseMethodDescriptor yX3_init.desc).map (fun d => d.parameters.length) = some 0 := by decide +kernel
abbrev cX3_refuses : ByteArray := prog_5_method_2_code
def yX3_refuses : MethodName := ⟨RX3, "refuses", "(ZZZ)Z"⟩
theorem dyX3_refuses : yX3_refuses.cls ≠ "java/lang/invoke/MethodHandle" ∧ yX3_refuses.cls ≠ "java/lang/invoke/VarHandle" ∧ (parseMethodDescriptor yX3_refuses.desc).map (fun d => d.parameters.length) = some 3 := by decide +kernel
abbrev cX3_thrown : ByteArray := prog_5_method_3_code
def yX3_thrown : MethodName := ⟨RX3, "thrown", "()I"⟩
theorem dyX3_thrown : yX3_thrown.cls ≠ "java/lang/invoke/MethodHandle" ∧ yX3_thrown.cls ≠ "java/lang/invoke/VarHandle" ∧ (parseMethodDescriptor yX3_thrown.desc).map (fun d => d.parameters.length) = some 0 := by decide +kernel
abbrev cX3_times : ByteArray := prog_5_method_4_code
def yX3_times : MethodName := ⟨RX3, "times", "(II)I"⟩
theorem dyX3_times : yX3_times.cls ≠ "java/lang/invoke/MethodHandle" ∧ yX3_times.cls ≠ "java/lang/invoke/VarHandle" ∧ (parseMethodDescriptor yX3_times.desc).map (fun d => d.parameters.length) = some 2 := by decide +kernel
abbrev cX3_affine : ByteArray := prog_5_method_5_code
def yX3_affine : MethodName := ⟨RX3, "affine", "(I)I"⟩
theorem dyX3_affine : yX3_affine.cls ≠ "java/lang/invoke/MethodHandle" ∧ yX3_affine.cls ≠ "java/lang/invoke/VarHandle" ∧ (parseMethodDescriptor yX3_affine.desc).map (fun d => d.parameters.length) = some 1 := by decide +kernel
abbrev cX3_byteOf : ByteArray := prog_5_method_6_code
def yX3_byteOf : MethodName := ⟨RX3, "byteOf", "(II)I"⟩
theorem dyX3_byteOf : yX3_byteOf.cls ≠ "java/lang/invoke/MethodHandle" ∧ yX3_byteOf.cls ≠ "java/lang/invoke/VarHandle" ∧ (parseMethodDescriptor yX3_byteOf.desc).map (fun d => d.parameters.length) = some 2 := by decide +kernel
abbrev cX3_changed : ByteArray := prog_5_method_7_code
def yX3_changed : MethodName := ⟨RX3, "changed", "(I)I"⟩
theorem dyX3_changed : yX3_changed.cls ≠ "java/lang/invoke/MethodHandle" ∧ yX3_changed.cls ≠ "java/lang/invoke/VarHandle" ∧ (parseMethodDescriptor yX3_changed.desc).map (fun d => d.parameters.length) = some 1 := by decide +kernel
abbrev cX3_expand : ByteArray := prog_5_method_8_code
def yX3_expand : MethodName := ⟨RX3, "expand", "(JJ)V"⟩
theorem dyX3_expand : yX3_expand.cls ≠ "java/lang/invoke/MethodHandle" ∧ yX3_expand.cls ≠ "java/lang/invoke/VarHandle" ∧ (parseMethodDescriptor yX3_expand.desc).map (fun d => d.parameters.length) = some 2 := by decide +kernel
abbrev cX3_key : ByteArray := prog_5_method_9_code
def yX3_key : MethodName := ⟨RX3, "key", "(JJ)V"⟩
theorem dyX3_key : yX3_key.cls ≠ "java/lang/invoke/MethodHandle" ∧ yX3_key.cls ≠ "java/lang/invoke/VarHandle" ∧ (parseMethodDescriptor yX3_key.desc).map (fun d => d.parameters.length) = some 2 := by decide +kernel
abbrev cX3_word : ByteArray := prog_5_method_10_code
def yX3_word : MethodName := ⟨RX3, "word", "(I)I"⟩
theorem dyX3_word : yX3_word.cls ≠ "java/lang/invoke/MethodHandle" ∧ yX3_word.cls ≠ "java/lang/invoke/VarHandle" ∧ (parseMethodDescriptor yX3_word.desc).map (fun d => d.parameters.length) = some 1 := by decide +kernel
abbrev cX3_lay : ByteArray := prog_5_method_11_code
def yX3_lay : MethodName := ⟨RX3, "lay", "(JJ)V"⟩
theorem dyX3_lay : yX3_lay.cls ≠ "java/lang/invoke/MethodHandle" ∧ yX3_lay.cls ≠ "java/lang/invoke/VarHandle" ∧ (parseMethodDescriptor yX3_lay.desc).map (fun d => d.parameters.length) = some 2 := by decide +kernel
abbrev cX3_tell : ByteArray := prog_5_method_12_code
def yX3_tell : MethodName := ⟨RX3, "tell", "()V"⟩
theorem dyX3_tell : yX3_tell.cls ≠ "java/lang/invoke/MethodHandle" ∧ yX3_tell.cls ≠ "java/lang/invoke/VarHandle" ∧ (parseMethodDescriptor yX3_tell.desc).map (fun d => d.parameters.length) = some 0 := by decide +kernel
abbrev cX3_addWords : ByteArray := prog_5_method_13_code
def yX3_addWords : MethodName := ⟨RX3, "addWords", "(I)V"⟩
theorem dyX3_addWords : yX3_addWords.cls ≠ "java/lang/invoke/MethodHandle" ∧ yX3_addWords.cls ≠ "java/lang/invoke/VarHandle" ∧ (parseMethodDescriptor yX3_addWords.desc).map (fun d => d.parameters.length) = some 1 := by decide +kernel
abbrev cX3_mix : ByteArray := prog_5_method_14_code
def yX3_mix : MethodName := ⟨RX3, "mix", "(IIII)V"⟩
theorem dyX3_mix : yX3_mix.cls ≠ "java/lang/invoke/MethodHandle" ∧ yX3_mix.cls ≠ "java/lang/invoke/VarHandle" ∧ (parseMethodDescriptor yX3_mix.desc).map (fun d => d.parameters.length) = some 4 := by decide +kernel
abbrev cX3_encryptBlock : ByteArray := prog_5_method_15_code
def yX3_encryptBlock : MethodName := ⟨RX3, "encryptBlock", "()V"⟩
theorem dyX3_encryptBlock : yX3_encryptBlock.cls ≠ "java/lang/invoke/MethodHandle" ∧ yX3_encryptBlock.cls ≠ "java/lang/invoke/VarHandle" ∧ (parseMethodDescriptor yX3_encryptBlock.desc).map (fun d => d.parameters.length) = some 0 := by decide +kernel
abbrev cX3_decryptBlock : ByteArray := prog_5_method_16_code
def yX3_decryptBlock : MethodName := ⟨RX3, "decryptBlock", "()V"⟩
theorem dyX3_decryptBlock : yX3_decryptBlock.cls ≠ "java/lang/invoke/MethodHandle" ∧ yX3_decryptBlock.cls ≠ "java/lang/invoke/VarHandle" ∧ (parseMethodDescriptor yX3_decryptBlock.desc).map (fun d => d.parameters.length) = some 0 := by decide +kernel
abbrev cX3_encrypt : ByteArray := prog_5_method_17_code
def yX3_encrypt : MethodName := ⟨RX3, "encrypt", "(JJZ)J"⟩
theorem dyX3_encrypt : yX3_encrypt.cls ≠ "java/lang/invoke/MethodHandle" ∧ yX3_encrypt.cls ≠ "java/lang/invoke/VarHandle" ∧ (parseMethodDescriptor yX3_encrypt.desc).map (fun d => d.parameters.length) = some 3 := by decide +kernel
abbrev cX3_decrypt : ByteArray := prog_5_method_18_code
def yX3_decrypt : MethodName := ⟨RX3, "decrypt", "(JJZ)J"⟩
theorem dyX3_decrypt : yX3_decrypt.cls ≠ "java/lang/invoke/MethodHandle" ∧ yX3_decrypt.cls ≠ "java/lang/invoke/VarHandle" ∧ (parseMethodDescriptor yX3_decrypt.desc).map (fun d => d.parameters.length) = some 3 := by decide +kernel
abbrev cX3_multiply : ByteArray := prog_5_method_19_code
def yX3_multiply : MethodName := ⟨RX3, "multiply", "(JJ)V"⟩
theorem dyX3_multiply : yX3_multiply.cls ≠ "java/lang/invoke/MethodHandle" ∧ yX3_multiply.cls ≠ "java/lang/invoke/VarHandle" ∧ (parseMethodDescriptor yX3_multiply.desc).map (fun d => d.parameters.length) = some 2 := by decide +kernel
abbrev cX3_product : ByteArray := prog_5_method_20_code
def yX3_product : MethodName := ⟨RX3, "product", "(JJJJZ)J"⟩
theorem dyX3_product : yX3_product.cls ≠ "java/lang/invoke/MethodHandle" ∧ yX3_product.cls ≠ "java/lang/invoke/VarHandle" ∧ (parseMethodDescriptor yX3_product.desc).map (fun d => d.parameters.length) = some 5 := by decide +kernel
abbrev cX3_start : ByteArray := prog_5_method_21_code
def yX3_start : MethodName := ⟨RX3, "start", "(ZJI)V"⟩
theorem dyX3_start : yX3_start.cls ≠ "java/lang/invoke/MethodHandle" ∧ yX3_start.cls ≠ "java/lang/invoke/VarHandle" ∧ (parseMethodDescriptor yX3_start.desc).map (fun d => d.parameters.length) = some 3 := by decide +kernel
abbrev cX3_counter : ByteArray := prog_5_method_22_code
def yX3_counter : MethodName := ⟨RX3, "counter", "(I)V"⟩
theorem dyX3_counter : yX3_counter.cls ≠ "java/lang/invoke/MethodHandle" ∧ yX3_counter.cls ≠ "java/lang/invoke/VarHandle" ∧ (parseMethodDescriptor yX3_counter.desc).map (fun d => d.parameters.length) = some 1 := by decide +kernel
abbrev cX3_mask : ByteArray := prog_5_method_23_code
def yX3_mask : MethodName := ⟨RX3, "mask", "(I)I"⟩
theorem dyX3_mask : yX3_mask.cls ≠ "java/lang/invoke/MethodHandle" ∧ yX3_mask.cls ≠ "java/lang/invoke/VarHandle" ∧ (parseMethodDescriptor yX3_mask.desc).map (fun d => d.parameters.length) = some 1 := by decide +kernel
abbrev cX3_aside : ByteArray := prog_5_method_24_code
def yX3_aside : MethodName := ⟨RX3, "aside", "(JI)I"⟩
theorem dyX3_aside : yX3_aside.cls ≠ "java/lang/invoke/MethodHandle" ∧ yX3_aside.cls ≠ "java/lang/invoke/VarHandle" ∧ (parseMethodDescriptor yX3_aside.desc).map (fun d => d.parameters.length) = some 2 := by decide +kernel
abbrev cX3_text : ByteArray := prog_5_method_25_code
def yX3_text : MethodName := ⟨RX3, "text", "(JI)J"⟩
theorem dyX3_text : yX3_text.cls ≠ "java/lang/invoke/MethodHandle" ∧ yX3_text.cls ≠ "java/lang/invoke/VarHandle" ∧ (parseMethodDescriptor yX3_text.desc).map (fun d => d.parameters.length) = some 2 := by decide +kernel
abbrev cX3_sealedByte : ByteArray := prog_5_method_26_code
def yX3_sealedByte : MethodName := ⟨RX3, "sealedByte", "(I)I"⟩
theorem dyX3_sealedByte : yX3_sealedByte.cls ≠ "java/lang/invoke/MethodHandle" ∧ yX3_sealedByte.cls ≠ "java/lang/invoke/VarHandle" ∧ (parseMethodDescriptor yX3_sealedByte.desc).map (fun d => d.parameters.length) = some 1 := by decide +kernel
abbrev cX3_fold : ByteArray := prog_5_method_27_code
def yX3_fold : MethodName := ⟨RX3, "fold", "(ZIJJ)V"⟩
theorem dyX3_fold : yX3_fold.cls ≠ "java/lang/invoke/MethodHandle" ∧ yX3_fold.cls ≠ "java/lang/invoke/VarHandle" ∧ (parseMethodDescriptor yX3_fold.desc).map (fun d => d.parameters.length) = some 4 := by decide +kernel
abbrev cX3_makeTag : ByteArray := prog_5_method_28_code
def yX3_makeTag : MethodName := ⟨RX3, "makeTag", "()V"⟩
theorem dyX3_makeTag : yX3_makeTag.cls ≠ "java/lang/invoke/MethodHandle" ∧ yX3_makeTag.cls ≠ "java/lang/invoke/VarHandle" ∧ (parseMethodDescriptor yX3_makeTag.desc).map (fun d => d.parameters.length) = some 0 := by decide +kernel
abbrev cX3_isUnderWay : ByteArray := prog_5_method_29_code
def yX3_isUnderWay : MethodName := ⟨RX3, "isUnderWay", "()Z"⟩
theorem dyX3_isUnderWay : yX3_isUnderWay.cls ≠ "java/lang/invoke/MethodHandle" ∧ yX3_isUnderWay.cls ≠ "java/lang/invoke/VarHandle" ∧ (parseMethodDescriptor yX3_isUnderWay.desc).map (fun d => d.parameters.length) = some 0 := by decide +kernel
abbrev cX3_seal : ByteArray := prog_5_method_30_code
def yX3_seal : MethodName := ⟨RX3, "seal", "()I"⟩
theorem dyX3_seal : yX3_seal.cls ≠ "java/lang/invoke/MethodHandle" ∧ yX3_seal.cls ≠ "java/lang/invoke/VarHandle" ∧ (parseMethodDescriptor yX3_seal.desc).map (fun d => d.parameters.length) = some 0 := by decide +kernel
abbrev cX3_open : ByteArray := prog_5_method_31_code
def yX3_open : MethodName := ⟨RX3, "open", "(JJ)Z"⟩
theorem dyX3_open : yX3_open.cls ≠ "java/lang/invoke/MethodHandle" ∧ yX3_open.cls ≠ "java/lang/invoke/VarHandle" ∧ (parseMethodDescriptor yX3_open.desc).map (fun d => d.parameters.length) = some 2 := by decide +kernel
abbrev cX3_tag : ByteArray := prog_5_method_32_code
def yX3_tag : MethodName := ⟨RX3, "tag", "(Z)J"⟩
theorem dyX3_tag : yX3_tag.cls ≠ "java/lang/invoke/MethodHandle" ∧ yX3_tag.cls ≠ "java/lang/invoke/VarHandle" ∧ (parseMethodDescriptor yX3_tag.desc).map (fun d => d.parameters.length) = some 1 := by decide +kernel
abbrev cX3_length : ByteArray := prog_5_method_33_code
def yX3_length : MethodName := ⟨RX3, "length", "()I"⟩
theorem dyX3_length : yX3_length.cls ≠ "java/lang/invoke/MethodHandle" ∧ yX3_length.cls ≠ "java/lang/invoke/VarHandle" ∧ (parseMethodDescriptor yX3_length.desc).map (fun d => d.parameters.length) = some 0 := by decide +kernel
abbrev cX3_at : ByteArray := prog_5_method_34_code
def yX3_at : MethodName := ⟨RX3, "at", "(I)I"⟩
theorem dyX3_at : yX3_at.cls ≠ "java/lang/invoke/MethodHandle" ∧ yX3_at.cls ≠ "java/lang/invoke/VarHandle" ∧ (parseMethodDescriptor yX3_at.desc).map (fun d => d.parameters.length) = some 1 := by decide +kernel
abbrev cX3_phase : ByteArray := prog_5_method_35_code
def yX3_phase : MethodName := ⟨RX3, "phase", "()I"⟩
theorem dyX3_phase : yX3_phase.cls ≠ "java/lang/invoke/MethodHandle" ∧ yX3_phase.cls ≠ "java/lang/invoke/VarHandle" ∧ (parseMethodDescriptor yX3_phase.desc).map (fun d => d.parameters.length) = some 0 := by decide +kernel
abbrev cX0_init : ByteArray := prog_2_method_1_code
def yX0_init : MethodName := ⟨RX0, "<init>", "()V"⟩
theorem dyX0_init : yX0_init.cls ≠ "java/lang/invoke/MethodHandle" ∧ yX0_init.cls ≠ "java/lang/invoke/VarHandle" ∧ (parseMethodDescriptor yX0_init.desc).map (fun d => d.parameters.length) = some 0 := by decide +kernel
abbrev cX0_fillSubst : ByteArray := prog_2_method_2_code
def yX0_fillSubst : MethodName := ⟨RX0, "fillSubst", "()V"⟩
theorem dyX0_fillSubst : yX0_fillSubst.cls ≠ "java/lang/invoke/MethodHandle" ∧ yX0_fillSubst.cls ≠ "java/lang/invoke/VarHandle" ∧ (parseMethodDescriptor yX0_fillSubst.desc).map (fun d => d.parameters.length) = some 0 := by decide +kernel
abbrev cX0_enterSubst : ByteArray := prog_2_method_3_code
def yX0_enterSubst : MethodName := ⟨RX0, "enterSubst", "(II)V"⟩
theorem dyX0_enterSubst : yX0_enterSubst.cls ≠ "java/lang/invoke/MethodHandle" ∧ yX0_enterSubst.cls ≠ "java/lang/invoke/VarHandle" ∧ (parseMethodDescriptor yX0_enterSubst.desc).map (fun d => d.parameters.length) = some 2 := by decide +kernel
abbrev cX0_twice : ByteArray := prog_2_method_4_code
def yX0_twice : MethodName := ⟨RX0, "twice", "(I)I"⟩
theorem dyX0_twice : yX0_twice.cls ≠ "java/lang/invoke/MethodHandle" ∧ yX0_twice.cls ≠ "java/lang/invoke/VarHandle" ∧ (parseMethodDescriptor yX0_twice.desc).map (fun d => d.parameters.length) = some 1 := by decide +kernel
abbrev cX0_expand : ByteArray := prog_2_method_5_code
def yX0_expand : MethodName := ⟨RX0, "expand", "(JJ)V"⟩
theorem dyX0_expand : yX0_expand.cls ≠ "java/lang/invoke/MethodHandle" ∧ yX0_expand.cls ≠ "java/lang/invoke/VarHandle" ∧ (parseMethodDescriptor yX0_expand.desc).map (fun d => d.parameters.length) = some 2 := by decide +kernel
abbrev cX0_substWord : ByteArray := prog_2_method_6_code
def yX0_substWord : MethodName := ⟨RX0, "substWord", "(I)I"⟩
theorem dyX0_substWord : yX0_substWord.cls ≠ "java/lang/invoke/MethodHandle" ∧ yX0_substWord.cls ≠ "java/lang/invoke/VarHandle" ∧ (parseMethodDescriptor yX0_substWord.desc).map (fun d => d.parameters.length) = some 1 := by decide +kernel
abbrev cX0_wordAt : ByteArray := prog_2_method_7_code
def yX0_wordAt : MethodName := ⟨RX0, "wordAt", "(I)I"⟩
theorem dyX0_wordAt : yX0_wordAt.cls ≠ "java/lang/invoke/MethodHandle" ∧ yX0_wordAt.cls ≠ "java/lang/invoke/VarHandle" ∧ (parseMethodDescriptor yX0_wordAt.desc).map (fun d => d.parameters.length) = some 1 := by decide +kernel
abbrev cX0_encipher : ByteArray := prog_2_method_8_code
def yX0_encipher : MethodName := ⟨RX0, "encipher", "(JJ)V"⟩
theorem dyX0_encipher : yX0_encipher.cls ≠ "java/lang/invoke/MethodHandle" ∧ yX0_encipher.cls ≠ "java/lang/invoke/VarHandle" ∧ (parseMethodDescriptor yX0_encipher.desc).map (fun d => d.parameters.length) = some 2 := by decide +kernel
abbrev cX0_decipher : ByteArray := prog_2_method_9_code
def yX0_decipher : MethodName := ⟨RX0, "decipher", "(JJ)V"⟩
theorem dyX0_decipher : yX0_decipher.cls ≠ "java/lang/invoke/MethodHandle" ∧ yX0_decipher.cls ≠ "java/lang/invoke/VarHandle" ∧ (parseMethodDescriptor yX0_decipher.desc).map (fun d => d.parameters.length) = some 2 := by decide +kernel
abbrev cX0_load : ByteArray := prog_2_method_10_code
def yX0_load : MethodName := ⟨RX0, "load", "(JJ)V"⟩
theorem dyX0_load : yX0_load.cls ≠ "java/lang/invoke/MethodHandle" ∧ yX0_load.cls ≠ "java/lang/invoke/VarHandle" ∧ (parseMethodDescriptor yX0_load.desc).map (fun d => d.parameters.length) = some 2 := by decide +kernel
abbrev cX0_addWords : ByteArray := prog_2_method_11_code
def yX0_addWords : MethodName := ⟨RX0, "addWords", "(I)V"⟩
theorem dyX0_addWords : yX0_addWords.cls ≠ "java/lang/invoke/MethodHandle" ∧ yX0_addWords.cls ≠ "java/lang/invoke/VarHandle" ∧ (parseMethodDescriptor yX0_addWords.desc).map (fun d => d.parameters.length) = some 1 := by decide +kernel
abbrev cX0_shiftedFrom : ByteArray := prog_2_method_12_code
def yX0_shiftedFrom : MethodName := ⟨RX0, "shiftedFrom", "(I)I"⟩
theorem dyX0_shiftedFrom : yX0_shiftedFrom.cls ≠ "java/lang/invoke/MethodHandle" ∧ yX0_shiftedFrom.cls ≠ "java/lang/invoke/VarHandle" ∧ (parseMethodDescriptor yX0_shiftedFrom.desc).map (fun d => d.parameters.length) = some 1 := by decide +kernel
abbrev cX0_substAndShift : ByteArray := prog_2_method_13_code
def yX0_substAndShift : MethodName := ⟨RX0, "substAndShift", "()V"⟩
theorem dyX0_substAndShift : yX0_substAndShift.cls ≠ "java/lang/invoke/MethodHandle" ∧ yX0_substAndShift.cls ≠ "java/lang/invoke/VarHandle" ∧ (parseMethodDescriptor yX0_substAndShift.desc).map (fun d => d.parameters.length) = some 0 := by decide +kernel
abbrev cX0_unshiftAndUnsubst : ByteArray := prog_2_method_14_code
def yX0_unshiftAndUnsubst : MethodName := ⟨RX0, "unshiftAndUnsubst", "()V"⟩
theorem dyX0_unshiftAndUnsubst : yX0_unshiftAndUnsubst.cls ≠ "java/lang/invoke/MethodHandle" ∧ yX0_unshiftAndUnsubst.cls ≠ "java/lang/invoke/VarHandle" ∧ (parseMethodDescriptor yX0_unshiftAndUnsubst.desc).map (fun d => d.parameters.length) = some 0 := by decide +kernel
abbrev cX0_mix : ByteArray := prog_2_method_15_code
def yX0_mix : MethodName := ⟨RX0, "mix", "()V"⟩
theorem dyX0_mix : yX0_mix.cls ≠ "java/lang/invoke/MethodHandle" ∧ yX0_mix.cls ≠ "java/lang/invoke/VarHandle" ∧ (parseMethodDescriptor yX0_mix.desc).map (fun d => d.parameters.length) = some 0 := by decide +kernel
abbrev cX0_unmix : ByteArray := prog_2_method_16_code
def yX0_unmix : MethodName := ⟨RX0, "unmix", "()V"⟩
theorem dyX0_unmix : yX0_unmix.cls ≠ "java/lang/invoke/MethodHandle" ∧ yX0_unmix.cls ≠ "java/lang/invoke/VarHandle" ∧ (parseMethodDescriptor yX0_unmix.desc).map (fun d => d.parameters.length) = some 0 := by decide +kernel
abbrev cX0_copyBlock : ByteArray := prog_2_method_17_code
def yX0_copyBlock : MethodName := ⟨RX0, "copyBlock", "([I)V"⟩
theorem dyX0_copyBlock : yX0_copyBlock.cls ≠ "java/lang/invoke/MethodHandle" ∧ yX0_copyBlock.cls ≠ "java/lang/invoke/VarHandle" ∧ (parseMethodDescriptor yX0_copyBlock.desc).map (fun d => d.parameters.length) = some 1 := by decide +kernel
abbrev cX0_high : ByteArray := prog_2_method_18_code
def yX0_high : MethodName := ⟨RX0, "high", "()J"⟩
theorem dyX0_high : yX0_high.cls ≠ "java/lang/invoke/MethodHandle" ∧ yX0_high.cls ≠ "java/lang/invoke/VarHandle" ∧ (parseMethodDescriptor yX0_high.desc).map (fun d => d.parameters.length) = some 0 := by decide +kernel
abbrev cX0_low : ByteArray := prog_2_method_19_code
def yX0_low : MethodName := ⟨RX0, "low", "()J"⟩
theorem dyX0_low : yX0_low.cls ≠ "java/lang/invoke/MethodHandle" ∧ yX0_low.cls ≠ "java/lang/invoke/VarHandle" ∧ (parseMethodDescriptor yX0_low.desc).map (fun d => d.parameters.length) = some 0 := by decide +kernel
abbrev cX1_init : ByteArray := prog_3_method_1_code
def yX1_init : MethodName := ⟨RX1, "<init>", "()V"⟩
theorem dyX1_init : yX1_init.cls ≠ "java/lang/invoke/MethodHandle" ∧ yX1_init.cls ≠ "java/lang/invoke/VarHandle" ∧ (parseMethodDescriptor yX1_init.desc).map (fun d => d.parameters.length) = some 0 := by decide +kernel
abbrev cX1_put : ByteArray := prog_3_method_2_code
def yX1_put : MethodName := ⟨RX1, "put", "(JJ)V"⟩
theorem dyX1_put : yX1_put.cls ≠ "java/lang/invoke/MethodHandle" ∧ yX1_put.cls ≠ "java/lang/invoke/VarHandle" ∧ (parseMethodDescriptor yX1_put.desc).map (fun d => d.parameters.length) = some 2 := by decide +kernel
abbrev cX1_add : ByteArray := prog_3_method_3_code
def yX1_add : MethodName := ⟨RX1, "add", "(JJ)V"⟩
theorem dyX1_add : yX1_add.cls ≠ "java/lang/invoke/MethodHandle" ∧ yX1_add.cls ≠ "java/lang/invoke/VarHandle" ∧ (parseMethodDescriptor yX1_add.desc).map (fun d => d.parameters.length) = some 2 := by decide +kernel
abbrev cX1_multiply : ByteArray := prog_3_method_4_code
def yX1_multiply : MethodName := ⟨RX1, "multiply", "(JJ)V"⟩
theorem dyX1_multiply : yX1_multiply.cls ≠ "java/lang/invoke/MethodHandle" ∧ yX1_multiply.cls ≠ "java/lang/invoke/VarHandle" ∧ (parseMethodDescriptor yX1_multiply.desc).map (fun d => d.parameters.length) = some 2 := by decide +kernel
abbrev cX1_high : ByteArray := prog_3_method_5_code
def yX1_high : MethodName := ⟨RX1, "high", "()J"⟩
theorem dyX1_high : yX1_high.cls ≠ "java/lang/invoke/MethodHandle" ∧ yX1_high.cls ≠ "java/lang/invoke/VarHandle" ∧ (parseMethodDescriptor yX1_high.desc).map (fun d => d.parameters.length) = some 0 := by decide +kernel
abbrev cX1_low : ByteArray := prog_3_method_6_code
def yX1_low : MethodName := ⟨RX1, "low", "()J"⟩
theorem dyX1_low : yX1_low.cls ≠ "java/lang/invoke/MethodHandle" ∧ yX1_low.cls ≠ "java/lang/invoke/VarHandle" ∧ (parseMethodDescriptor yX1_low.desc).map (fun d => d.parameters.length) = some 0 := by decide +kernel
abbrev cL_word : ByteArray := method_3_code
def yL_word : MethodName := ⟨RL, "word", "(LSealedStream;I[J)I"⟩
theorem dyL_word : yL_word.cls ≠ "java/lang/invoke/MethodHandle" ∧ yL_word.cls ≠ "java/lang/invoke/VarHandle" ∧ (parseMethodDescriptor yL_word.desc).map (fun d => d.parameters.length) = some 3 := by decide +kernel
abbrev cL_aside : ByteArray := method_4_code
def yL_aside : MethodName := ⟨RL, "aside", "(LSealedStream;JI[J)I"⟩
theorem dyL_aside : yL_aside.cls ≠ "java/lang/invoke/MethodHandle" ∧ yL_aside.cls ≠ "java/lang/invoke/VarHandle" ∧ (parseMethodDescriptor yL_aside.desc).map (fun d => d.parameters.length) = some 4 := by decide +kernel
abbrev cL_text : ByteArray := method_5_code
def yL_text : MethodName := ⟨RL, "text", "(LSealedStream;JI[J)I"⟩
theorem dyL_text : yL_text.cls ≠ "java/lang/invoke/MethodHandle" ∧ yL_text.cls ≠ "java/lang/invoke/VarHandle" ∧ (parseMethodDescriptor yL_text.desc).map (fun d => d.parameters.length) = some 4 := by decide +kernel
abbrev cL_seal : ByteArray := method_6_code
def yL_seal : MethodName := ⟨RL, "seal", "(LSealedStream;[J)I"⟩
theorem dyL_seal : yL_seal.cls ≠ "java/lang/invoke/MethodHandle" ∧ yL_seal.cls ≠ "java/lang/invoke/VarHandle" ∧ (parseMethodDescriptor yL_seal.desc).map (fun d => d.parameters.length) = some 2 := by decide +kernel
abbrev cL_open : ByteArray := method_7_code
def yL_open : MethodName := ⟨RL, "open", "(LSealedStream;JJ[J)I"⟩
theorem dyL_open : yL_open.cls ≠ "java/lang/invoke/MethodHandle" ∧ yL_open.cls ≠ "java/lang/invoke/VarHandle" ∧ (parseMethodDescriptor yL_open.desc).map (fun d => d.parameters.length) = some 4 := by decide +kernel
abbrev cL_tag : ByteArray := method_8_code
def yL_tag : MethodName := ⟨RL, "tag", "(LSealedStream;Z[J)I"⟩
theorem dyL_tag : yL_tag.cls ≠ "java/lang/invoke/MethodHandle" ∧ yL_tag.cls ≠ "java/lang/invoke/VarHandle" ∧ (parseMethodDescriptor yL_tag.desc).map (fun d => d.parameters.length) = some 3 := by decide +kernel
abbrev cL_law : ByteArray := code
def yL_law : MethodName := ⟨RL, "law", "([I)Z"⟩
theorem dyL_law : yL_law.cls ≠ "java/lang/invoke/MethodHandle" ∧ yL_law.cls ≠ "java/lang/invoke/VarHandle" ∧ (parseMethodDescriptor yL_law.desc).map (fun d => d.parameters.length) = some 1 := by decide +kernel
abbrev cJ_rotateLeft : ByteArray := prog_10_method_50_code
def yJ_rotateLeft : MethodName := ⟨"java/lang/Integer", "rotateLeft", "(II)I"⟩
theorem dyJ_rotateLeft : yJ_rotateLeft.cls ≠ "java/lang/invoke/MethodHandle" ∧ yJ_rotateLeft.cls ≠ "java/lang/invoke/VarHandle" ∧ (parseMethodDescriptor yJ_rotateLeft.desc).map (fun d => d.parameters.length) = some 2 := by decide +kernel
