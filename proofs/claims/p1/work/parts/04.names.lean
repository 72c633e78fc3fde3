abbrev cX3_init : ByteArray := prog_5_method_1_code
def yX3_init : MethodName := ⟨RX3, "<init>", "()V"⟩
abbrev cX3_symbol : ByteArray := prog_5_method_2_code
def yX3_symbol : MethodName := ⟨RX3, "symbol", "(I)I"⟩
abbrev cX3_keyOf : ByteArray := prog_5_method_4_code
def yX3_keyOf : MethodName := ⟨RX3, "keyOf", "(Ljava/lang/String;)J"⟩
abbrev cX3_most : ByteArray := prog_5_method_5_code
def yX3_most : MethodName := ⟨RX3, "most", "(I)I"⟩
abbrev cX3_full : ByteArray := prog_5_method_6_code
def yX3_full : MethodName := ⟨RX3, "full", "(I)Z"⟩
abbrev cX3_tell : ByteArray := prog_5_method_7_code
def yX3_tell : MethodName := ⟨RX3, "tell", "(IJI[II)I"⟩
def wsX3_symbol : List Cond := .code yX3_symbol cX3_symbol 1 (some .int) :: ([])
def wsX3_keyOf_r1 : List Cond := [Cond.constantLong RX3 46 (37), Cond.methodLink RX3 40 yJ0_length_8abf5, Cond.instanceMethod yJ0_length_8abf5, Cond.selects RJ0 yJ0_length_8abf5 yJ0_length_8abf5, Cond.initialized RJ0, Cond.code yJ0_length_8abf5 cJ0_length_8abf5 1 (some .int), Cond.fieldLink RJ0 9 "java/lang/String" "value" "[B", Cond.methodLink RJ0 335 yJ0_coder_7d493, Cond.instanceMethod yJ0_coder_7d493, Cond.selects RJ0 yJ0_coder_7d493 yJ0_coder_7d493, Cond.code yJ0_coder_7d493 cJ0_coder_7d493 1 (some .byte), Cond.fieldLink RJ0 38 "java/lang/String" "COMPACT_STRINGS" "Z", Cond.fieldLink RJ0 15 "java/lang/String" "coder" "B", Cond.methodLink RX3 48 yJ0_charAt_5068e, Cond.instanceMethod yJ0_charAt_5068e, Cond.selects RJ0 yJ0_charAt_5068e yJ0_charAt_5068e, Cond.code yJ0_charAt_5068e cJ0_charAt_5068e 2 (some .char), Cond.methodLink RJ0 492 yJ0_isLatin1_aae02, Cond.instanceMethod yJ0_isLatin1_aae02, Cond.selects RJ0 yJ0_isLatin1_aae02 yJ0_isLatin1_aae02, Cond.code yJ0_isLatin1_aae02 cJ0_isLatin1_aae02 1 (some .boolean), Cond.methodLink RJ0 495 yJ1_charAt_3b067, Cond.static yJ1_charAt_3b067, Cond.initialized RJ1]
def wsX3_keyOf_r2 : List Cond := [Cond.code yJ1_charAt_3b067 cJ1_charAt_3b067 2 (some .char), Cond.methodLink RJ1 9 yJ0_checkIndex_df160, Cond.static yJ0_checkIndex_df160, Cond.code yJ0_checkIndex_df160 cJ0_checkIndex_df160 2 none, Cond.fieldLink RJ0 1053 "jdk/internal/util/Preconditions" "SIOOBE_FORMATTER" "Ljava/util/function/BiFunction;", Cond.methodLink RJ0 1059 yJ3_checkIndex_8e157, Cond.static yJ3_checkIndex_8e157, Cond.initialized RJ3, Cond.code yJ3_checkIndex_8e157 cJ3_checkIndex_8e157 3 (some .int), Cond.methodLink RJ0 498 yJ2_charAt_3b067, Cond.static yJ2_charAt_3b067, Cond.initialized RJ2, Cond.code yJ2_charAt_3b067 cJ2_charAt_3b067 2 (some .char), Cond.methodLink RJ2 67 yJ2_checkIndex_2214a, Cond.static yJ2_checkIndex_2214a, Cond.code yJ2_checkIndex_2214a cJ2_checkIndex_2214a 2 none, Cond.methodLink RJ2 48 yJ2_length_9d52b, Cond.static yJ2_length_9d52b, Cond.code yJ2_length_9d52b cJ2_length_9d52b 1 (some .int), Cond.methodLink RJ2 414 yJ0_checkIndex_df160, Cond.methodLink RJ2 71 yJ2_getChar_3b067, Cond.static yJ2_getChar_3b067, Cond.code yJ2_getChar_3b067 cJ2_getChar_3b067 2 (some .char), Cond.fieldLink RJ2 44 "java/lang/StringUTF16" "$assertionsDisabled" "Z"]
def wsX3_keyOf_r3 : List Cond := [Cond.fieldLink RJ2 59 "java/lang/StringUTF16" "HI_BYTE_SHIFT" "I", Cond.fieldLink RJ2 63 "java/lang/StringUTF16" "LO_BYTE_SHIFT" "I", Cond.methodLink RX3 52 yX3_symbol, Cond.static yX3_symbol, Cond.initialized RX3, Cond.code yX3_symbol cX3_symbol 1 (some .int)]
def wsX3_keyOf : List Cond := .code yX3_keyOf cX3_keyOf 4 (some .long) :: ((wsX3_keyOf_r1 ++ (wsX3_keyOf_r2 ++ wsX3_keyOf_r3)))
def wsX3_most : List Cond := .code yX3_most cX3_most 1 (some .int) :: ([])
def wsX3_full : List Cond := .code yX3_full cX3_full 2 (some .boolean) :: ([.fieldLink RX3 9 "ProofBench$Names" "counts" "[I", .methodLink RX3 58 yX3_most, .static yX3_most, .initialized RX3, .code yX3_most cX3_most 1 (some .int)] ++ wsX30)
def wsX3_tell : List Cond := .code yX3_tell cX3_tell 9 (some .int) :: ([.fieldLink RX3 9 "ProofBench$Names" "counts" "[I", .fieldLink RX3 15 "ProofBench$Names" "keys" "[J", .fieldLink RX3 19 "ProofBench$Names" "sorts" "[I", .fieldLink RX3 22 "ProofBench$Names" "arities" "[I", .fieldLink RX3 25 "ProofBench$Names" "parts" "[I", .methodLink RX3 61 yX3_full, .instanceMethod yX3_full, .selects RX3 yX3_full yX3_full, .initialized RX3, .code yX3_full cX3_full 2 (some .boolean), .methodLink RX3 58 yX3_most, .static yX3_most, .code yX3_most cX3_most 1 (some .int)] ++ wsX30)
def wsX3_init_r1 : List Cond := [Cond.methodLink RX3 3 objectInit, Cond.instanceMethod objectInit, Cond.code objectInit ⟨#[0xb1]⟩ 1 none, Cond.arrayClass .int, Cond.fieldLink RX3 9 "ProofBench$Names" "counts" "[I", Cond.arrayClass .long, Cond.fieldLink RX3 15 "ProofBench$Names" "keys" "[J", Cond.fieldLink RX3 19 "ProofBench$Names" "sorts" "[I", Cond.fieldLink RX3 22 "ProofBench$Names" "arities" "[I", Cond.fieldLink RX3 25 "ProofBench$Names" "parts" "[I", Cond.methodLink RX3 30 yX3_keyOf, Cond.static yX3_keyOf, Cond.initialized RX3, Cond.code yX3_keyOf cX3_keyOf 4 (some .long), Cond.constantLong RX3 46 (37), Cond.methodLink RX3 40 yJ0_length_8abf5, Cond.instanceMethod yJ0_length_8abf5, Cond.selects RJ0 yJ0_length_8abf5 yJ0_length_8abf5, Cond.initialized RJ0, Cond.code yJ0_length_8abf5 cJ0_length_8abf5 1 (some .int), Cond.fieldLink RJ0 9 "java/lang/String" "value" "[B", Cond.methodLink RJ0 335 yJ0_coder_7d493, Cond.instanceMethod yJ0_coder_7d493, Cond.selects RJ0 yJ0_coder_7d493 yJ0_coder_7d493]
def wsX3_init_r2 : List Cond := [Cond.code yJ0_coder_7d493 cJ0_coder_7d493 1 (some .byte), Cond.fieldLink RJ0 38 "java/lang/String" "COMPACT_STRINGS" "Z", Cond.fieldLink RJ0 15 "java/lang/String" "coder" "B", Cond.methodLink RX3 48 yJ0_charAt_5068e, Cond.instanceMethod yJ0_charAt_5068e, Cond.selects RJ0 yJ0_charAt_5068e yJ0_charAt_5068e, Cond.code yJ0_charAt_5068e cJ0_charAt_5068e 2 (some .char), Cond.methodLink RJ0 492 yJ0_isLatin1_aae02, Cond.instanceMethod yJ0_isLatin1_aae02, Cond.selects RJ0 yJ0_isLatin1_aae02 yJ0_isLatin1_aae02, Cond.code yJ0_isLatin1_aae02 cJ0_isLatin1_aae02 1 (some .boolean), Cond.methodLink RJ0 495 yJ1_charAt_3b067, Cond.static yJ1_charAt_3b067, Cond.initialized RJ1, Cond.code yJ1_charAt_3b067 cJ1_charAt_3b067 2 (some .char), Cond.methodLink RJ1 9 yJ0_checkIndex_df160, Cond.static yJ0_checkIndex_df160, Cond.code yJ0_checkIndex_df160 cJ0_checkIndex_df160 2 none, Cond.fieldLink RJ0 1053 "jdk/internal/util/Preconditions" "SIOOBE_FORMATTER" "Ljava/util/function/BiFunction;", Cond.methodLink RJ0 1059 yJ3_checkIndex_8e157, Cond.static yJ3_checkIndex_8e157, Cond.initialized RJ3, Cond.code yJ3_checkIndex_8e157 cJ3_checkIndex_8e157 3 (some .int), Cond.methodLink RJ0 498 yJ2_charAt_3b067]
def wsX3_init_r3 : List Cond := [Cond.static yJ2_charAt_3b067, Cond.initialized RJ2, Cond.code yJ2_charAt_3b067 cJ2_charAt_3b067 2 (some .char), Cond.methodLink RJ2 67 yJ2_checkIndex_2214a, Cond.static yJ2_checkIndex_2214a, Cond.code yJ2_checkIndex_2214a cJ2_checkIndex_2214a 2 none, Cond.methodLink RJ2 48 yJ2_length_9d52b, Cond.static yJ2_length_9d52b, Cond.code yJ2_length_9d52b cJ2_length_9d52b 1 (some .int), Cond.methodLink RJ2 414 yJ0_checkIndex_df160, Cond.methodLink RJ2 71 yJ2_getChar_3b067, Cond.static yJ2_getChar_3b067, Cond.code yJ2_getChar_3b067 cJ2_getChar_3b067 2 (some .char), Cond.fieldLink RJ2 44 "java/lang/StringUTF16" "$assertionsDisabled" "Z", Cond.fieldLink RJ2 59 "java/lang/StringUTF16" "HI_BYTE_SHIFT" "I", Cond.fieldLink RJ2 63 "java/lang/StringUTF16" "LO_BYTE_SHIFT" "I", Cond.methodLink RX3 52 yX3_symbol, Cond.static yX3_symbol, Cond.code yX3_symbol cX3_symbol 1 (some .int), Cond.methodLink RX3 34 yX3_tell, Cond.instanceMethod yX3_tell, Cond.selects RX3 yX3_tell yX3_tell, Cond.code yX3_tell cX3_tell 9 (some .int), Cond.methodLink RX3 61 yX3_full]
def wsX3_init_r4 : List Cond := [Cond.instanceMethod yX3_full, Cond.selects RX3 yX3_full yX3_full, Cond.code yX3_full cX3_full 2 (some .boolean), Cond.methodLink RX3 58 yX3_most, Cond.static yX3_most, Cond.code yX3_most cX3_most 1 (some .int)]
def wsX3_init : List Cond := .code yX3_init cX3_init 2 none :: ((wsX3_init_r1 ++ (wsX3_init_r2 ++ (wsX3_init_r3 ++ wsX3_init_r4))) ++ wsX30)
theorem dX3_init_0 : decode cX3_init 0 = .ok (.aload_n 0, 1) := by decide +kernel
theorem dX3_init_1 : decode cX3_init 1 = .ok (.invokespecial 3, 3) := by decide +kernel
theorem dX3_init_4 : decode cX3_init 4 = .ok (.aload_n 0, 1) := by decide +kernel
theorem dX3_init_5 : decode cX3_init 5 = .ok (.iconst 5, 1) := by decide +kernel
theorem dX3_init_6 : decode cX3_init 6 = .ok (.newarray .int, 2) := by decide +kernel
theorem dX3_init_8 : decode cX3_init 8 = .ok (.putfield 9, 3) := by decide +kernel
theorem dX3_init_11 : decode cX3_init 11 = .ok (.aload_n 0, 1) := by decide +kernel
theorem dX3_init_12 : decode cX3_init 12 = .ok (.sipush 200, 3) := by decide +kernel
theorem dX3_init_15 : decode cX3_init 15 = .ok (.newarray .long, 2) := by decide +kernel
theorem dX3_init_17 : decode cX3_init 17 = .ok (.putfield 15, 3) := by decide +kernel
theorem dX3_init_20 : decode cX3_init 20 = .ok (.aload_n 0, 1) := by decide +kernel
theorem dX3_init_21 : decode cX3_init 21 = .ok (.sipush 200, 3) := by decide +kernel
theorem dX3_init_24 : decode cX3_init 24 = .ok (.newarray .int, 2) := by decide +kernel
theorem dX3_init_26 : decode cX3_init 26 = .ok (.putfield 19, 3) := by decide +kernel
theorem dX3_init_29 : decode cX3_init 29 = .ok (.aload_n 0, 1) := by decide +kernel
theorem dX3_init_30 : decode cX3_init 30 = .ok (.sipush 200, 3) := by decide +kernel
theorem dX3_init_33 : decode cX3_init 33 = .ok (.newarray .int, 2) := by decide +kernel
theorem dX3_init_35 : decode cX3_init 35 = .ok (.putfield 22, 3) := by decide +kernel
theorem dX3_init_38 : decode cX3_init 38 = .ok (.aload_n 0, 1) := by decide +kernel
theorem dX3_init_39 : decode cX3_init 39 = .ok (.sipush 600, 3) := by decide +kernel
theorem dX3_init_42 : decode cX3_init 42 = .ok (.newarray .int, 2) := by decide +kernel
theorem dX3_init_44 : decode cX3_init 44 = .ok (.putfield 25, 3) := by decide +kernel
theorem dX3_init_47 : decode cX3_init 47 = .ok (.iconst 3, 1) := by decide +kernel
theorem dX3_init_48 : decode cX3_init 48 = .ok (.newarray .int, 2) := by decide +kernel
theorem dX3_init_50 : decode cX3_init 50 = .ok (.astore_n 1, 1) := by decide +kernel
theorem dX3_init_51 : decode cX3_init 51 = .ok (.aload_n 0, 1) := by decide +kernel
theorem dX3_init_52 : decode cX3_init 52 = .ok (.iconst 0, 1) := by decide +kernel
theorem dX3_init_53 : decode cX3_init 53 = .ok (.ldc 28, 2) := by decide +kernel
theorem dX3_init_55 : decode cX3_init 55 = .ok (.invokestatic 30, 3) := by decide +kernel
theorem dX3_init_58 : decode cX3_init 58 = .ok (.iconst 0, 1) := by decide +kernel
theorem dX3_init_59 : decode cX3_init 59 = .ok (.aload_n 1, 1) := by decide +kernel
theorem dX3_init_60 : decode cX3_init 60 = .ok (.iconst 0, 1) := by decide +kernel
theorem dX3_init_61 : decode cX3_init 61 = .ok (.invokevirtual 34, 3) := by decide +kernel
theorem dX3_init_64 : decode cX3_init 64 = .ok (.pop, 1) := by decide +kernel
theorem dX3_init_65 : decode cX3_init 65 = .ok (.aload_n 0, 1) := by decide +kernel
theorem dX3_init_66 : decode cX3_init 66 = .ok (.iconst 2, 1) := by decide +kernel
theorem dX3_init_67 : decode cX3_init 67 = .ok (.ldc 38, 2) := by decide +kernel
theorem dX3_init_69 : decode cX3_init 69 = .ok (.invokestatic 30, 3) := by decide +kernel
theorem dX3_init_72 : decode cX3_init 72 = .ok (.iconst 0, 1) := by decide +kernel
theorem dX3_init_73 : decode cX3_init 73 = .ok (.aload_n 1, 1) := by decide +kernel
theorem dX3_init_74 : decode cX3_init 74 = .ok (.iconst 1, 1) := by decide +kernel
theorem dX3_init_75 : decode cX3_init 75 = .ok (.invokevirtual 34, 3) := by decide +kernel
theorem dX3_init_78 : decode cX3_init 78 = .ok (.pop, 1) := by decide +kernel
theorem dX3_init_79 : decode cX3_init 79 = .ok (.return_, 1) := by decide +kernel
theorem dX3_symbol_0 : decode cX3_symbol 0 = .ok (.iload_n 0, 1) := by decide +kernel
theorem dX3_symbol_1 : decode cX3_symbol 1 = .ok (.bipush 97, 2) := by decide +kernel
theorem dX3_symbol_3 : decode cX3_symbol 3 = .ok (.if_icmp .lt 12, 3) := by decide +kernel
theorem dX3_symbol_6 : decode cX3_symbol 6 = .ok (.iload_n 0, 1) := by decide +kernel
theorem dX3_symbol_7 : decode cX3_symbol 7 = .ok (.bipush 97, 2) := by decide +kernel
theorem dX3_symbol_9 : decode cX3_symbol 9 = .ok (.isub, 1) := by decide +kernel
theorem dX3_symbol_10 : decode cX3_symbol 10 = .ok (.iconst 1, 1) := by decide +kernel
theorem dX3_symbol_11 : decode cX3_symbol 11 = .ok (.iadd, 1) := by decide +kernel
theorem dX3_symbol_12 : decode cX3_symbol 12 = .ok (.goto 10, 3) := by decide +kernel
theorem dX3_symbol_15 : decode cX3_symbol 15 = .ok (.iload_n 0, 1) := by decide +kernel
theorem dX3_symbol_16 : decode cX3_symbol 16 = .ok (.bipush 48, 2) := by decide +kernel
theorem dX3_symbol_18 : decode cX3_symbol 18 = .ok (.isub, 1) := by decide +kernel
theorem dX3_symbol_19 : decode cX3_symbol 19 = .ok (.bipush 27, 2) := by decide +kernel
theorem dX3_symbol_21 : decode cX3_symbol 21 = .ok (.iadd, 1) := by decide +kernel
theorem dX3_symbol_22 : decode cX3_symbol 22 = .ok (.ireturn, 1) := by decide +kernel
theorem dX3_keyOf_0 : decode cX3_keyOf 0 = .ok (.lconst 0, 1) := by decide +kernel
theorem dX3_keyOf_1 : decode cX3_keyOf 1 = .ok (.lstore_n 1, 1) := by decide +kernel
theorem dX3_keyOf_2 : decode cX3_keyOf 2 = .ok (.iconst 0, 1) := by decide +kernel
theorem dX3_keyOf_3 : decode cX3_keyOf 3 = .ok (.istore_n 3, 1) := by decide +kernel
theorem dX3_keyOf_4 : decode cX3_keyOf 4 = .ok (.iload_n 3, 1) := by decide +kernel
theorem dX3_keyOf_5 : decode cX3_keyOf 5 = .ok (.aload_n 0, 1) := by decide +kernel
theorem dX3_keyOf_6 : decode cX3_keyOf 6 = .ok (.invokevirtual 40, 3) := by decide +kernel
theorem dX3_keyOf_9 : decode cX3_keyOf 9 = .ok (.if_icmp .ge 25, 3) := by decide +kernel
theorem dX3_keyOf_12 : decode cX3_keyOf 12 = .ok (.lload_n 1, 1) := by decide +kernel
theorem dX3_keyOf_13 : decode cX3_keyOf 13 = .ok (.ldc2_w 46, 3) := by decide +kernel
theorem dX3_keyOf_16 : decode cX3_keyOf 16 = .ok (.lmul, 1) := by decide +kernel
theorem dX3_keyOf_17 : decode cX3_keyOf 17 = .ok (.aload_n 0, 1) := by decide +kernel
theorem dX3_keyOf_18 : decode cX3_keyOf 18 = .ok (.iload_n 3, 1) := by decide +kernel
theorem dX3_keyOf_19 : decode cX3_keyOf 19 = .ok (.invokevirtual 48, 3) := by decide +kernel
theorem dX3_keyOf_22 : decode cX3_keyOf 22 = .ok (.invokestatic 52, 3) := by decide +kernel
theorem dX3_keyOf_25 : decode cX3_keyOf 25 = .ok (.i2l, 1) := by decide +kernel
theorem dX3_keyOf_26 : decode cX3_keyOf 26 = .ok (.ladd, 1) := by decide +kernel
theorem dX3_keyOf_27 : decode cX3_keyOf 27 = .ok (.lstore_n 1, 1) := by decide +kernel
theorem dX3_keyOf_28 : decode cX3_keyOf 28 = .ok (.iinc 3 1, 3) := by decide +kernel
theorem dX3_keyOf_31 : decode cX3_keyOf 31 = .ok (.goto (-27), 3) := by decide +kernel
theorem dX3_keyOf_34 : decode cX3_keyOf 34 = .ok (.lload_n 1, 1) := by decide +kernel
theorem dX3_keyOf_35 : decode cX3_keyOf 35 = .ok (.lreturn, 1) := by decide +kernel
theorem dX3_most_0 : decode cX3_most 0 = .ok (.iload_n 0, 1) := by decide +kernel
theorem dX3_most_1 : decode cX3_most 1 = .ok (.tableswitch 44 0 4 #[35, 38, 44, 44, 41], 35) := by decide +kernel
theorem dX3_most_36 : decode cX3_most 36 = .ok (.bipush 6, 2) := by decide +kernel
theorem dX3_most_38 : decode cX3_most 38 = .ok (.ireturn, 1) := by decide +kernel
theorem dX3_most_39 : decode cX3_most 39 = .ok (.bipush 30, 2) := by decide +kernel
theorem dX3_most_41 : decode cX3_most 41 = .ok (.ireturn, 1) := by decide +kernel
theorem dX3_most_42 : decode cX3_most 42 = .ok (.bipush 40, 2) := by decide +kernel
theorem dX3_most_44 : decode cX3_most 44 = .ok (.ireturn, 1) := by decide +kernel
theorem dX3_most_45 : decode cX3_most 45 = .ok (.bipush 20, 2) := by decide +kernel
theorem dX3_most_47 : decode cX3_most 47 = .ok (.ireturn, 1) := by decide +kernel
theorem dX3_full_0 : decode cX3_full 0 = .ok (.aload_n 0, 1) := by decide +kernel
theorem dX3_full_1 : decode cX3_full 1 = .ok (.getfield 9, 3) := by decide +kernel
theorem dX3_full_4 : decode cX3_full 4 = .ok (.iload_n 1, 1) := by decide +kernel
theorem dX3_full_5 : decode cX3_full 5 = .ok (.iaload, 1) := by decide +kernel
theorem dX3_full_6 : decode cX3_full 6 = .ok (.iload_n 1, 1) := by decide +kernel
theorem dX3_full_7 : decode cX3_full 7 = .ok (.invokestatic 58, 3) := by decide +kernel
theorem dX3_full_10 : decode cX3_full 10 = .ok (.if_icmp .lt 7, 3) := by decide +kernel
theorem dX3_full_13 : decode cX3_full 13 = .ok (.iconst 1, 1) := by decide +kernel
theorem dX3_full_14 : decode cX3_full 14 = .ok (.goto 4, 3) := by decide +kernel
theorem dX3_full_17 : decode cX3_full 17 = .ok (.iconst 0, 1) := by decide +kernel
theorem dX3_full_18 : decode cX3_full 18 = .ok (.ireturn, 1) := by decide +kernel
theorem dX3_tell_0 : decode cX3_tell 0 = .ok (.aload_n 0, 1) := by decide +kernel
theorem dX3_tell_1 : decode cX3_tell 1 = .ok (.iload_n 1, 1) := by decide +kernel
theorem dX3_tell_2 : decode cX3_tell 2 = .ok (.invokevirtual 61, 3) := by decide +kernel
theorem dX3_tell_5 : decode cX3_tell 5 = .ok (.ifCond .eq 6, 3) := by decide +kernel
theorem dX3_tell_8 : decode cX3_tell 8 = .ok (.bipush 8, 2) := by decide +kernel
theorem dX3_tell_10 : decode cX3_tell 10 = .ok (.ireturn, 1) := by decide +kernel
theorem dX3_tell_11 : decode cX3_tell 11 = .ok (.iload_n 1, 1) := by decide +kernel
theorem dX3_tell_12 : decode cX3_tell 12 = .ok (.bipush 40, 2) := by decide +kernel
theorem dX3_tell_14 : decode cX3_tell 14 = .ok (.imul, 1) := by decide +kernel
theorem dX3_tell_15 : decode cX3_tell 15 = .ok (.aload_n 0, 1) := by decide +kernel
theorem dX3_tell_16 : decode cX3_tell 16 = .ok (.getfield 9, 3) := by decide +kernel
theorem dX3_tell_19 : decode cX3_tell 19 = .ok (.iload_n 1, 1) := by decide +kernel
theorem dX3_tell_20 : decode cX3_tell 20 = .ok (.iaload, 1) := by decide +kernel
theorem dX3_tell_21 : decode cX3_tell 21 = .ok (.iadd, 1) := by decide +kernel
theorem dX3_tell_22 : decode cX3_tell 22 = .ok (.istore 7, 2) := by decide +kernel
theorem dX3_tell_24 : decode cX3_tell 24 = .ok (.aload_n 0, 1) := by decide +kernel
theorem dX3_tell_25 : decode cX3_tell 25 = .ok (.getfield 15, 3) := by decide +kernel
theorem dX3_tell_28 : decode cX3_tell 28 = .ok (.iload 7, 2) := by decide +kernel
theorem dX3_tell_30 : decode cX3_tell 30 = .ok (.lload_n 2, 1) := by decide +kernel
theorem dX3_tell_31 : decode cX3_tell 31 = .ok (.lastore, 1) := by decide +kernel
theorem dX3_tell_32 : decode cX3_tell 32 = .ok (.aload_n 0, 1) := by decide +kernel
theorem dX3_tell_33 : decode cX3_tell 33 = .ok (.getfield 19, 3) := by decide +kernel
theorem dX3_tell_36 : decode cX3_tell 36 = .ok (.iload 7, 2) := by decide +kernel
theorem dX3_tell_38 : decode cX3_tell 38 = .ok (.iload 4, 2) := by decide +kernel
theorem dX3_tell_40 : decode cX3_tell 40 = .ok (.iastore, 1) := by decide +kernel
theorem dX3_tell_41 : decode cX3_tell 41 = .ok (.aload_n 0, 1) := by decide +kernel
theorem dX3_tell_42 : decode cX3_tell 42 = .ok (.getfield 22, 3) := by decide +kernel
theorem dX3_tell_45 : decode cX3_tell 45 = .ok (.iload 7, 2) := by decide +kernel
theorem dX3_tell_47 : decode cX3_tell 47 = .ok (.iload 6, 2) := by decide +kernel
theorem dX3_tell_49 : decode cX3_tell 49 = .ok (.iastore, 1) := by decide +kernel
theorem dX3_tell_50 : decode cX3_tell 50 = .ok (.iconst 0, 1) := by decide +kernel
theorem dX3_tell_51 : decode cX3_tell 51 = .ok (.istore 8, 2) := by decide +kernel
theorem dX3_tell_53 : decode cX3_tell 53 = .ok (.iload 8, 2) := by decide +kernel
theorem dX3_tell_55 : decode cX3_tell 55 = .ok (.iload 6, 2) := by decide +kernel
theorem dX3_tell_57 : decode cX3_tell 57 = .ok (.if_icmp .ge 40, 3) := by decide +kernel
theorem dX3_tell_60 : decode cX3_tell 60 = .ok (.iload 8, 2) := by decide +kernel
theorem dX3_tell_62 : decode cX3_tell 62 = .ok (.aload 5, 2) := by decide +kernel
theorem dX3_tell_64 : decode cX3_tell 64 = .ok (.arraylength, 1) := by decide +kernel
theorem dX3_tell_65 : decode cX3_tell 65 = .ok (.if_icmp .ge 32, 3) := by decide +kernel
theorem dX3_tell_68 : decode cX3_tell 68 = .ok (.iload 8, 2) := by decide +kernel
theorem dX3_tell_70 : decode cX3_tell 70 = .ok (.iconst 3, 1) := by decide +kernel
theorem dX3_tell_71 : decode cX3_tell 71 = .ok (.if_icmp .ge 26, 3) := by decide +kernel
theorem dX3_tell_74 : decode cX3_tell 74 = .ok (.aload_n 0, 1) := by decide +kernel
theorem dX3_tell_75 : decode cX3_tell 75 = .ok (.getfield 25, 3) := by decide +kernel
theorem dX3_tell_78 : decode cX3_tell 78 = .ok (.iload 7, 2) := by decide +kernel
theorem dX3_tell_80 : decode cX3_tell 80 = .ok (.iconst 3, 1) := by decide +kernel
theorem dX3_tell_81 : decode cX3_tell 81 = .ok (.imul, 1) := by decide +kernel
theorem dX3_tell_82 : decode cX3_tell 82 = .ok (.iload 8, 2) := by decide +kernel
theorem dX3_tell_84 : decode cX3_tell 84 = .ok (.iadd, 1) := by decide +kernel
theorem dX3_tell_85 : decode cX3_tell 85 = .ok (.aload 5, 2) := by decide +kernel
theorem dX3_tell_87 : decode cX3_tell 87 = .ok (.iload 8, 2) := by decide +kernel
theorem dX3_tell_89 : decode cX3_tell 89 = .ok (.iaload, 1) := by decide +kernel
theorem dX3_tell_90 : decode cX3_tell 90 = .ok (.iastore, 1) := by decide +kernel
theorem dX3_tell_91 : decode cX3_tell 91 = .ok (.iinc 8 1, 3) := by decide +kernel
theorem dX3_tell_94 : decode cX3_tell 94 = .ok (.goto (-41), 3) := by decide +kernel
theorem dX3_tell_97 : decode cX3_tell 97 = .ok (.aload_n 0, 1) := by decide +kernel
theorem dX3_tell_98 : decode cX3_tell 98 = .ok (.getfield 9, 3) := by decide +kernel
theorem dX3_tell_101 : decode cX3_tell 101 = .ok (.iload_n 1, 1) := by decide +kernel
theorem dX3_tell_102 : decode cX3_tell 102 = .ok (.dup2, 1) := by decide +kernel
theorem dX3_tell_103 : decode cX3_tell 103 = .ok (.iaload, 1) := by decide +kernel
theorem dX3_tell_104 : decode cX3_tell 104 = .ok (.iconst 1, 1) := by decide +kernel
theorem dX3_tell_105 : decode cX3_tell 105 = .ok (.iadd, 1) := by decide +kernel
theorem dX3_tell_106 : decode cX3_tell 106 = .ok (.iastore, 1) := by decide +kernel
theorem dX3_tell_107 : decode cX3_tell 107 = .ok (.iconst 0, 1) := by decide +kernel
theorem dX3_tell_108 : decode cX3_tell 108 = .ok (.ireturn, 1) := by decide +kernel
set_option maxRecDepth 20000 in
theorem ggX3_init_X3_keyOf : GoodIn wsX3_init wsX3_keyOf := goodIn_r _ [14, 15, 16, 17, 18, 19, 20, 21, 22, 23, 24, 25, 26, 27, 28, 29, 30, 31, 32, 33, 34, 35, 36, 37, 38, 39, 40, 41, 42, 43, 44, 45, 46, 47, 48, 49, 50, 51, 52, 53, 54, 55, 56, 57, 58, 59, 60, 61, 62, 63, 64, 65, 66, 13, 67] (by decide +kernel) (by decide +kernel)
set_option maxRecDepth 20000 in
theorem gX3_init_X3_keyOf : GoodIn wsX3_init (va_wsS RX3 30 yX3_keyOf wsX3_keyOf) := goodIn_app (goodIn_of _ (by decide +kernel)) ggX3_init_X3_keyOf
set_option maxRecDepth 20000 in
theorem ggX3_init_X3_tell : GoodIn wsX3_init wsX3_tell := goodIn_r _ [71, 5, 7, 8, 9, 10, 72, 73, 74, 13, 75, 76, 77, 78, 79, 80, 81, 82, 83] (by decide +kernel) (by decide +kernel)
set_option maxRecDepth 20000 in
theorem gX3_init_X3_tell : GoodIn wsX3_init (wsV RX3 34 RX3 yX3_tell wsX3_tell) := goodIn_app (goodIn_of _ (by decide +kernel)) ggX3_init_X3_tell
set_option maxRecDepth 20000 in
theorem ggX3_keyOf_J0_length_8abf5 : GoodIn wsX3_keyOf wsJ0_length_8abf5 := goodIn_r _ [6, 7, 8, 9, 10, 5, 11, 12, 13] (by decide +kernel) (by decide +kernel)
set_option maxRecDepth 20000 in
theorem gX3_keyOf_J0_length_8abf5 : GoodIn wsX3_keyOf (wsV RX3 40 RJ0 yJ0_length_8abf5 wsJ0_length_8abf5) := goodIn_app (goodIn_of _ (by decide +kernel)) ggX3_keyOf_J0_length_8abf5
set_option maxRecDepth 20000 in
theorem ggX3_keyOf_J0_charAt_5068e : GoodIn wsX3_keyOf wsJ0_charAt_5068e := goodIn_r _ [17, 7, 18, 19, 20, 5, 21, 12, 13, 22, 23, 24, 25, 26, 27, 28, 29, 30, 31, 32, 33, 34, 35, 36, 37, 38, 39, 40, 41, 42, 43, 44, 45, 46, 47, 48, 49, 50] (by decide +kernel) (by decide +kernel)
set_option maxRecDepth 20000 in
theorem gX3_keyOf_J0_charAt_5068e : GoodIn wsX3_keyOf (wsV RX3 48 RJ0 yJ0_charAt_5068e wsJ0_charAt_5068e) := goodIn_app (goodIn_of _ (by decide +kernel)) ggX3_keyOf_J0_charAt_5068e
set_option maxRecDepth 20000 in
theorem ggX3_keyOf_X3_symbol : GoodIn wsX3_keyOf wsX3_symbol := goodIn_r _ [54] (by decide +kernel) (by decide +kernel)
set_option maxRecDepth 20000 in
theorem gX3_keyOf_X3_symbol : GoodIn wsX3_keyOf (va_wsS RX3 52 yX3_symbol wsX3_symbol) := goodIn_app (goodIn_of _ (by decide +kernel)) ggX3_keyOf_X3_symbol
set_option maxRecDepth 20000 in
theorem ggX3_full_X3_most : GoodIn wsX3_full wsX3_most := goodIn_r _ [5] (by decide +kernel) (by decide +kernel)
set_option maxRecDepth 20000 in
theorem gX3_full_X3_most : GoodIn wsX3_full (va_wsS RX3 58 yX3_most wsX3_most) := goodIn_app (goodIn_of _ (by decide +kernel)) ggX3_full_X3_most
set_option maxRecDepth 20000 in
theorem ggX3_tell_X3_full : GoodIn wsX3_tell wsX3_full := goodIn_r _ [10, 1, 11, 12, 9, 13, 14, 15, 16, 17, 18] (by decide +kernel) (by decide +kernel)
set_option maxRecDepth 20000 in
theorem gX3_tell_X3_full : GoodIn wsX3_tell (wsV RX3 61 RX3 yX3_full wsX3_full) := goodIn_app (goodIn_of _ (by decide +kernel)) ggX3_tell_X3_full
set_option maxHeartbeats 1000000 in
set_option maxRecDepth 100000 in
/-- symbol(c): some int -/
theorem c_symbol (l : Launch) (dC : Nat → ClassId) (dI : Nat → Nat → Nat) (sz : Nat) (x : Int32) : Met l yX3_symbol wsX3_symbol ({ frames := 0, cells := 0, slots := 0, locals := 0 }) (va_Pc [.int x] (fun U => U.heap.size = sz ∧ va_P (dC, dI) vwCl [] U.heap ∧ va_K (dC, dI) vwCl [] U ∧ va_D (fun _ => True) [])) (va_Qi (fun (r : Int32) (_ : Unit) => True) (fun _ t => va_P (dC, dI) vwCl [] t.heap ∧ va_K (dC, dI) vwCl [] t ∧ va_D (va_A [] sz) []) (va_A [] sz)) (0) (0) (va_A [] sz) := by
  refine Met.ofW (cc := cX3_symbol) (maxL := 1) (ret := (some .int)) (by decide) rfl ?_
  intro p e s m args below meth c s₁ B hml hv
  obtain ⟨rfl, hsz, hP, hK, hD0⟩ := hv
  have hx := B.exec
  have hb := B.bytes
  have hr := B.returns
  have hts := atoms_spec (ws := wsX3_symbol) B.pre
  have hown : s.vm.findClass RX3 = some m.cls := findClass_of_methodNamed B.named
  have hlocks := B.notSynchronized
  subst hsz
  have hD := hD0.self (sz := s.heap.size)
  generalize hAe : va_A [] s.heap.size = A at hD ⊢
  have hA : ∀ q : Nat, s.heap.size ≤ q → A q := fun q h => by rw [← hAe]; exact Or.inr h
  have hS : va_S A s.heap s.heap [] := va_S.rf
  have hl := lv_entry ([.int x]) (n := 1) (Nat.le_of_ble_eq_true rfl)
  rw [lg_entry_eq]
  generalize (lg_sl ([.int x]) ++ List.replicate (1 - (lg_sl ([.int x])).length) Slot.unset).toArray = ls at hl ⊢
  have hl : lv_has ls 1 [(0, .int x)] := hl
  refine lv_iload_n hx hb dX3_symbol_0 rfl (lv_at hl 0 rfl) ?_
  refine lv_bipush (v := 97) hx hb dX3_symbol_1 (by decide) ?_
  refine lv_icmp_lt (tgt := 15) hx hb dX3_symbol_3 (by decide) (fun c9 => ?_) (fun c9 => ?_)
  · skip
    refine lv_iload_n hx hb dX3_symbol_15 rfl (lv_at hl 0 rfl) ?_
    refine lv_bipush (v := 48) hx hb dX3_symbol_16 (by decide) ?_
    refine lv_isub hx hb dX3_symbol_18 ?_
    refine lv_topi (fun r_1 er_1 => ?_)
    refine lv_bipush (v := 27) hx hb dX3_symbol_19 (by decide) ?_
    refine lv_iadd hx hb dX3_symbol_21 ?_
    refine lv_topi (fun r_2 er_2 => ?_)
    have hP9 := hP.sub (ws' := []) [] rfl
    have hD9 := hD.sub (ws' := []) [] (by decide) rfl
    have hK9 := hK.sub (tys' := []) [] rfl
    refine W.widen (k := 0) (n := 0) (by omega) (by omega) ?_
    exact W.iret (v := r_2) hx hb hr (fun t ht hW => ⟨⟨r_2, (), rfl, trivial, by rw [ht]; exact hP9, va_K.moved hW.alike hK9, hD9⟩, hS.F ht⟩) hS.2.2 dX3_symbol_22
  · skip
    refine lv_iload_n hx hb dX3_symbol_6 rfl (lv_at hl 0 rfl) ?_
    refine lv_bipush (v := 97) hx hb dX3_symbol_7 (by decide) ?_
    refine lv_isub hx hb dX3_symbol_9 ?_
    refine lv_topi (fun r_3 er_3 => ?_)
    refine lv_iconst (v := 1) hx hb dX3_symbol_10 (by decide) ?_
    refine lv_iadd hx hb dX3_symbol_11 ?_
    refine lv_topi (fun r_4 er_4 => ?_)
    refine lv_goto (tgt := 22) hx hb dX3_symbol_12 (by decide) ?_
    have hP9 := hP.sub (ws' := []) [] rfl
    have hD9 := hD.sub (ws' := []) [] (by decide) rfl
    have hK9 := hK.sub (tys' := []) [] rfl
    refine W.widen (k := 0) (n := 0) (by omega) (by omega) ?_
    exact W.iret (v := r_4) hx hb hr (fun t ht hW => ⟨⟨r_4, (), rfl, trivial, by rw [ht]; exact hP9, va_K.moved hW.alike hK9, hD9⟩, hS.F ht⟩) hS.2.2 dX3_symbol_22
set_option maxHeartbeats 1000000 in
set_option maxRecDepth 100000 in
/-- most -/
theorem c_most_0 (l : Launch) (dC : Nat → ClassId) (dI : Nat → Nat → Nat) (sz : Nat)  : Met l yX3_most wsX3_most ({ frames := 0, cells := 0, slots := 0, locals := 0 }) (va_Pc [.int 0] (fun U => U.heap.size = sz ∧ va_P (dC, dI) vwCl [] U.heap ∧ va_K (dC, dI) vwCl [] U ∧ va_D (fun _ => True) [])) (va_Qi (fun (r : Int32) (_ : Unit) => r = 6) (fun _ t => va_P (dC, dI) vwCl [] t.heap ∧ va_K (dC, dI) vwCl [] t ∧ va_D (va_A [] sz) []) (va_A [] sz)) (0) (0) (va_A [] sz) := by
  refine Met.ofW (cc := cX3_most) (maxL := 1) (ret := (some .int)) (by decide) rfl ?_
  intro p e s m args below meth c s₁ B hml hv
  obtain ⟨rfl, hsz, hP, hK, hD0⟩ := hv
  have hx := B.exec
  have hb := B.bytes
  have hr := B.returns
  have hts := atoms_spec (ws := wsX3_most) B.pre
  have hown : s.vm.findClass RX3 = some m.cls := findClass_of_methodNamed B.named
  have hlocks := B.notSynchronized
  subst hsz
  have hD := hD0.self (sz := s.heap.size)
  generalize hAe : va_A [] s.heap.size = A at hD ⊢
  have hA : ∀ q : Nat, s.heap.size ≤ q → A q := fun q h => by rw [← hAe]; exact Or.inr h
  have hS : va_S A s.heap s.heap [] := va_S.rf
  have hl := lv_entry ([.int 0]) (n := 1) (Nat.le_of_ble_eq_true rfl)
  rw [lg_entry_eq]
  generalize (lg_sl ([.int 0]) ++ List.replicate (1 - (lg_sl ([.int 0])).length) Slot.unset).toArray = ls at hl ⊢
  have hl : lv_has ls 1 [(0, .int 0)] := hl
  refine lv_iload_n hx hb dX3_most_0 rfl (lv_at hl 0 rfl) ?_
  refine lv_tableIn (off := 35) (tgt := 36) hx hb dX3_most_1 (by decide) (by decide) (by decide) (by decide) ?_
  refine lv_bipush (v := 6) hx hb dX3_most_36 (by decide) ?_
  have hP9 := hP.sub (ws' := []) [] rfl
  have hD9 := hD.sub (ws' := []) [] (by decide) rfl
  have hK9 := hK.sub (tys' := []) [] rfl
  refine W.widen (k := 0) (n := 0) (by omega) (by omega) ?_
  exact W.iret (v := 6) hx hb hr (fun t ht hW => ⟨⟨6, (), rfl, rfl, by rw [ht]; exact hP9, va_K.moved hW.alike hK9, hD9⟩, hS.F ht⟩) hS.2.2 dX3_most_38
set_option maxHeartbeats 1000000 in
set_option maxRecDepth 100000 in
/-- most -/
theorem c_most_2 (l : Launch) (dC : Nat → ClassId) (dI : Nat → Nat → Nat) (sz : Nat)  : Met l yX3_most wsX3_most ({ frames := 0, cells := 0, slots := 0, locals := 0 }) (va_Pc [.int 2] (fun U => U.heap.size = sz ∧ va_P (dC, dI) vwCl [] U.heap ∧ va_K (dC, dI) vwCl [] U ∧ va_D (fun _ => True) [])) (va_Qi (fun (r : Int32) (_ : Unit) => r = 20) (fun _ t => va_P (dC, dI) vwCl [] t.heap ∧ va_K (dC, dI) vwCl [] t ∧ va_D (va_A [] sz) []) (va_A [] sz)) (0) (0) (va_A [] sz) := by
  refine Met.ofW (cc := cX3_most) (maxL := 1) (ret := (some .int)) (by decide) rfl ?_
  intro p e s m args below meth c s₁ B hml hv
  obtain ⟨rfl, hsz, hP, hK, hD0⟩ := hv
  have hx := B.exec
  have hb := B.bytes
  have hr := B.returns
  have hts := atoms_spec (ws := wsX3_most) B.pre
  have hown : s.vm.findClass RX3 = some m.cls := findClass_of_methodNamed B.named
  have hlocks := B.notSynchronized
  subst hsz
  have hD := hD0.self (sz := s.heap.size)
  generalize hAe : va_A [] s.heap.size = A at hD ⊢
  have hA : ∀ q : Nat, s.heap.size ≤ q → A q := fun q h => by rw [← hAe]; exact Or.inr h
  have hS : va_S A s.heap s.heap [] := va_S.rf
  have hl := lv_entry ([.int 2]) (n := 1) (Nat.le_of_ble_eq_true rfl)
  rw [lg_entry_eq]
  generalize (lg_sl ([.int 2]) ++ List.replicate (1 - (lg_sl ([.int 2])).length) Slot.unset).toArray = ls at hl ⊢
  have hl : lv_has ls 1 [(0, .int 2)] := hl
  refine lv_iload_n hx hb dX3_most_0 rfl (lv_at hl 0 rfl) ?_
  refine lv_tableIn (off := 44) (tgt := 45) hx hb dX3_most_1 (by decide) (by decide) (by decide) (by decide) ?_
  refine lv_bipush (v := 20) hx hb dX3_most_45 (by decide) ?_
  have hP9 := hP.sub (ws' := []) [] rfl
  have hD9 := hD.sub (ws' := []) [] (by decide) rfl
  have hK9 := hK.sub (tys' := []) [] rfl
  refine W.widen (k := 0) (n := 0) (by omega) (by omega) ?_
  exact W.iret (v := 20) hx hb hr (fun t ht hW => ⟨⟨20, (), rfl, rfl, by rw [ht]; exact hP9, va_K.moved hW.alike hK9, hD9⟩, hS.F ht⟩) hS.2.2 dX3_most_47
set_option maxHeartbeats 1000000 in
set_option maxRecDepth 100000 in
/-- full -/
theorem c_full_0 (l : Launch) (dC : Nat → ClassId) (dI : Nat → Nat → Nat) (sz : Nat) (h0 a1 a2 a3 a4 a5 : Nat) (cA1 : ClassId) (g : Nat → Int32) (hg : g 0 = 0) : Met l yX3_full wsX3_full ({ frames := 1, cells := 0, slots := 0, locals := 20 }) (va_Pc [.ref h0, .int 0] (fun U => U.heap.size = sz ∧ va_P (dC, dI) vwCl [(h0, .inr (3, [.ref a1, .ref a2, .ref a3, .ref a4, .ref a5])), (a1, .inl (cA1, 5, .inl (g)))] U.heap ∧ va_K (dC, dI) vwCl [(cA1, .int)] U ∧ va_D (fun _ => True) [(h0, .inr (3, [.ref a1, .ref a2, .ref a3, .ref a4, .ref a5])), (a1, .inl (cA1, 5, .inl (g)))])) (va_Qi (fun (r : Int32) (_ : Unit) => r = 0) (fun _ t => va_P (dC, dI) vwCl [(h0, .inr (3, [.ref a1, .ref a2, .ref a3, .ref a4, .ref a5])), (a1, .inl (cA1, 5, .inl (g)))] t.heap ∧ va_K (dC, dI) vwCl [(cA1, .int)] t ∧ va_D (va_A [(h0, .inr (3, [.ref a1, .ref a2, .ref a3, .ref a4, .ref a5])), (a1, .inl (cA1, 5, .inl (g)))] sz) [(h0, .inr (3, [.ref a1, .ref a2, .ref a3, .ref a4, .ref a5])), (a1, .inl (cA1, 5, .inl (g)))]) (va_A [(h0, .inr (3, [.ref a1, .ref a2, .ref a3, .ref a4, .ref a5])), (a1, .inl (cA1, 5, .inl (g)))] sz)) (0) (0) (va_A [(h0, .inr (3, [.ref a1, .ref a2, .ref a3, .ref a4, .ref a5])), (a1, .inl (cA1, 5, .inl (g)))] sz) := by
  refine Met.ofW (cc := cX3_full) (maxL := 2) (ret := (some .boolean)) (by decide) rfl ?_
  intro p e s m args below meth c s₁ B hml hv
  obtain ⟨rfl, hsz, hP, hK, hD0⟩ := hv
  have hx := B.exec
  have hb := B.bytes
  have hr := B.returns
  have hts := atoms_spec (ws := wsX3_full) B.pre
  have hown : s.vm.findClass RX3 = some m.cls := findClass_of_methodNamed B.named
  have hlocks := B.notSynchronized
  subst hsz
  have hD := hD0.self (sz := s.heap.size)
  generalize hAe : va_A [(h0, .inr (3, [.ref a1, .ref a2, .ref a3, .ref a4, .ref a5])), (a1, .inl (cA1, 5, .inl (g)))] s.heap.size = A at hD ⊢
  have hA : ∀ q : Nat, s.heap.size ≤ q → A q := fun q h => by rw [← hAe]; exact Or.inr h
  have hS : va_S A s.heap s.heap [] := va_S.rf
  have hl := lv_entry ([.ref h0, .int 0]) (n := 2) (Nat.le_of_ble_eq_true rfl)
  rw [lg_entry_eq]
  generalize (lg_sl ([.ref h0, .int 0]) ++ List.replicate (2 - (lg_sl ([.ref h0, .int 0])).length) Slot.unset).toArray = ls at hl ⊢
  have hl : lv_has ls 2 [(0, .ref h0), (1, .int 0)] := hl
  refine lv_aload_n hx hb dX3_full_0 rfl (lv_at hl 0 rfl) ?_
  refine va_get (D := (dC, dI)) (ci := 3) (v := .ref a1) (C := RX3) (T := TX3) (N := 5) hx hb hts (by decide +kernel) hown hK hP 0 rfl rfl 0 (by decide) (hts (.fieldLink RX3 9 "ProofBench$Names" "counts" "[I") (by decide +kernel)) (fun _ h9 => h9) rfl dX3_full_1 ?_
  refine lv_iload_n hx hb dX3_full_4 rfl (lv_at hl 1 rfl) ?_
  refine va_iald hx hb hK hP 1 0 rfl rfl (show vp_in (0) 5 from by unfold vp_in; decide) dX3_full_5 ?_
  refine lv_topi (fun z_1 e9 => ?_)
  obtain rfl : z_1 = 0 := by rw [e9]; exact hg
  refine lv_iload_n hx hb dX3_full_6 rfl (lv_at hl 1 rfl) ?_
  have hPc := hP.sub (ws' := []) [] rfl
  have hDc := hD.sub (ws' := []) [] (by decide) rfl
  have hKc := hK.sub (tys' := []) [] rfl
  have hFc := va_free (wc := []) hD hS hA [] rfl
  refine va_calli (va_runS (As := [.int 0]) (rest := [.int 0]) ⟨hx, hb, hml, hown, hts⟩ (c_most_0 l dC dI s.heap.size) (va_cwS 1 hts gX3_full_X3_most rfl rfl rfl (by decide +kernel) ⟨Nat.le_of_ble_eq_true rfl, Nat.le_of_ble_eq_true rfl⟩) ⟨fun a U g mk q => by obtain ⟨q0, q1, qP, qK, qD⟩ := q; exact ⟨q0, q1, qP, va_K.moved (u := U) (U := U.calling g mk a) (Vm.Alike.refl U.vm) qK, qD⟩, fun U hU hW => ⟨rfl, by rw [hU], by rw [hU]; exact hPc, va_K.moved hW.alike hKc, hDc.weaken (fun _ _ _ _ => trivial)⟩⟩ rfl rfl hl.1 rfl (lv_room (Nat.le_of_ble_eq_true rfl)) dX3_full_7 ⟨(show 0 + 0 ≤ 0 by omega), (show 0 + 0 ≤ 0 by omega)⟩) hS (fun q _ h => hFc q h) hFc (fun r0 u t H1 locs ht hvm hw hB hz1 hk1 hS => ?_)
  obtain ⟨hP1, hK1, hD1⟩ := hB
  rw [ht] at hP1
  have hK1 := va_K.moved hvm.symm hK1
  obtain ⟨hP, hD⟩ := va_join (wr := [(h0, .inr (3, [.ref a1, .ref a2, .ref a3, .ref a4, .ref a5])), (a1, .inl (cA1, 5, .inl (g)))]) (w1 := []) hP hD [] [0, 1] rfl rfl (by decide) (by decide) hk1 hFc hP1 hD1
  have hK := (hK.sub (tys' := [(cA1, .int)]) [0] rfl).app hK1
  generalize H1 = H at hP hS ⊢
  have hP : va_P (dC, dI) vwCl [(h0, .inr (3, [.ref a1, .ref a2, .ref a3, .ref a4, .ref a5])), (a1, .inl (cA1, 5, .inl (g)))] H := hP
  have hD : va_D A [(h0, .inr (3, [.ref a1, .ref a2, .ref a3, .ref a4, .ref a5])), (a1, .inl (cA1, 5, .inl (g)))] := hD
  have hK : va_K (dC, dI) vwCl [(cA1, .int)] s := hK
  refine W.widen (k := 0) (n := 0) (by omega) (by omega) ?_
  subst hw
  refine lv_icmp_lt (tgt := 17) hx hb dX3_full_10 (by decide) (fun _ => ?_) (fun c9 => absurd c9 (by decide))
  refine lv_iconst (v := 0) hx hb dX3_full_17 (by decide) ?_
  have hP9 := hP.sub (ws' := [(h0, .inr (3, [.ref a1, .ref a2, .ref a3, .ref a4, .ref a5])), (a1, .inl (cA1, 5, .inl (g)))]) [0, 1] rfl
  have hD9 := hD.sub (ws' := [(h0, .inr (3, [.ref a1, .ref a2, .ref a3, .ref a4, .ref a5])), (a1, .inl (cA1, 5, .inl (g)))]) [0, 1] (by decide) rfl
  have hK9 := hK.sub (tys' := [(cA1, .int)]) [0] rfl
  refine W.widen (k := 0) (n := 0) (by omega) (by omega) ?_
  exact W.zret (v := 0) hx hb hr (rfl) (fun t ht hW => ⟨⟨0, (), rfl, rfl, by rw [ht]; exact hP9, va_K.moved hW.alike hK9, hD9⟩, hS.F ht⟩) hS.2.2 dX3_full_18
set_option maxHeartbeats 1000000 in
set_option maxRecDepth 100000 in
/-- full -/
theorem c_full_2 (l : Launch) (dC : Nat → ClassId) (dI : Nat → Nat → Nat) (sz : Nat) (h0 a1 a2 a3 a4 a5 : Nat) (cA1 : ClassId) (g : Nat → Int32) (hg : g 2 = 0) : Met l yX3_full wsX3_full ({ frames := 1, cells := 0, slots := 0, locals := 20 }) (va_Pc [.ref h0, .int 2] (fun U => U.heap.size = sz ∧ va_P (dC, dI) vwCl [(h0, .inr (3, [.ref a1, .ref a2, .ref a3, .ref a4, .ref a5])), (a1, .inl (cA1, 5, .inl (g)))] U.heap ∧ va_K (dC, dI) vwCl [(cA1, .int)] U ∧ va_D (fun _ => True) [(h0, .inr (3, [.ref a1, .ref a2, .ref a3, .ref a4, .ref a5])), (a1, .inl (cA1, 5, .inl (g)))])) (va_Qi (fun (r : Int32) (_ : Unit) => r = 0) (fun _ t => va_P (dC, dI) vwCl [(h0, .inr (3, [.ref a1, .ref a2, .ref a3, .ref a4, .ref a5])), (a1, .inl (cA1, 5, .inl (g)))] t.heap ∧ va_K (dC, dI) vwCl [(cA1, .int)] t ∧ va_D (va_A [(h0, .inr (3, [.ref a1, .ref a2, .ref a3, .ref a4, .ref a5])), (a1, .inl (cA1, 5, .inl (g)))] sz) [(h0, .inr (3, [.ref a1, .ref a2, .ref a3, .ref a4, .ref a5])), (a1, .inl (cA1, 5, .inl (g)))]) (va_A [(h0, .inr (3, [.ref a1, .ref a2, .ref a3, .ref a4, .ref a5])), (a1, .inl (cA1, 5, .inl (g)))] sz)) (0) (0) (va_A [(h0, .inr (3, [.ref a1, .ref a2, .ref a3, .ref a4, .ref a5])), (a1, .inl (cA1, 5, .inl (g)))] sz) := by
  refine Met.ofW (cc := cX3_full) (maxL := 2) (ret := (some .boolean)) (by decide) rfl ?_
  intro p e s m args below meth c s₁ B hml hv
  obtain ⟨rfl, hsz, hP, hK, hD0⟩ := hv
  have hx := B.exec
  have hb := B.bytes
  have hr := B.returns
  have hts := atoms_spec (ws := wsX3_full) B.pre
  have hown : s.vm.findClass RX3 = some m.cls := findClass_of_methodNamed B.named
  have hlocks := B.notSynchronized
  subst hsz
  have hD := hD0.self (sz := s.heap.size)
  generalize hAe : va_A [(h0, .inr (3, [.ref a1, .ref a2, .ref a3, .ref a4, .ref a5])), (a1, .inl (cA1, 5, .inl (g)))] s.heap.size = A at hD ⊢
  have hA : ∀ q : Nat, s.heap.size ≤ q → A q := fun q h => by rw [← hAe]; exact Or.inr h
  have hS : va_S A s.heap s.heap [] := va_S.rf
  have hl := lv_entry ([.ref h0, .int 2]) (n := 2) (Nat.le_of_ble_eq_true rfl)
  rw [lg_entry_eq]
  generalize (lg_sl ([.ref h0, .int 2]) ++ List.replicate (2 - (lg_sl ([.ref h0, .int 2])).length) Slot.unset).toArray = ls at hl ⊢
  have hl : lv_has ls 2 [(0, .ref h0), (1, .int 2)] := hl
  refine lv_aload_n hx hb dX3_full_0 rfl (lv_at hl 0 rfl) ?_
  refine va_get (D := (dC, dI)) (ci := 3) (v := .ref a1) (C := RX3) (T := TX3) (N := 5) hx hb hts (by decide +kernel) hown hK hP 0 rfl rfl 0 (by decide) (hts (.fieldLink RX3 9 "ProofBench$Names" "counts" "[I") (by decide +kernel)) (fun _ h9 => h9) rfl dX3_full_1 ?_
  refine lv_iload_n hx hb dX3_full_4 rfl (lv_at hl 1 rfl) ?_
  refine va_iald hx hb hK hP 1 0 rfl rfl (show vp_in (2) 5 from by unfold vp_in; decide) dX3_full_5 ?_
  refine lv_topi (fun z_1 e9 => ?_)
  obtain rfl : z_1 = 0 := by rw [e9]; exact hg
  refine lv_iload_n hx hb dX3_full_6 rfl (lv_at hl 1 rfl) ?_
  have hPc := hP.sub (ws' := []) [] rfl
  have hDc := hD.sub (ws' := []) [] (by decide) rfl
  have hKc := hK.sub (tys' := []) [] rfl
  have hFc := va_free (wc := []) hD hS hA [] rfl
  refine va_calli (va_runS (As := [.int 2]) (rest := [.int 0]) ⟨hx, hb, hml, hown, hts⟩ (c_most_2 l dC dI s.heap.size) (va_cwS 1 hts gX3_full_X3_most rfl rfl rfl (by decide +kernel) ⟨Nat.le_of_ble_eq_true rfl, Nat.le_of_ble_eq_true rfl⟩) ⟨fun a U g mk q => by obtain ⟨q0, q1, qP, qK, qD⟩ := q; exact ⟨q0, q1, qP, va_K.moved (u := U) (U := U.calling g mk a) (Vm.Alike.refl U.vm) qK, qD⟩, fun U hU hW => ⟨rfl, by rw [hU], by rw [hU]; exact hPc, va_K.moved hW.alike hKc, hDc.weaken (fun _ _ _ _ => trivial)⟩⟩ rfl rfl hl.1 rfl (lv_room (Nat.le_of_ble_eq_true rfl)) dX3_full_7 ⟨(show 0 + 0 ≤ 0 by omega), (show 0 + 0 ≤ 0 by omega)⟩) hS (fun q _ h => hFc q h) hFc (fun r0 u t H1 locs ht hvm hw hB hz1 hk1 hS => ?_)
  obtain ⟨hP1, hK1, hD1⟩ := hB
  rw [ht] at hP1
  have hK1 := va_K.moved hvm.symm hK1
  obtain ⟨hP, hD⟩ := va_join (wr := [(h0, .inr (3, [.ref a1, .ref a2, .ref a3, .ref a4, .ref a5])), (a1, .inl (cA1, 5, .inl (g)))]) (w1 := []) hP hD [] [0, 1] rfl rfl (by decide) (by decide) hk1 hFc hP1 hD1
  have hK := (hK.sub (tys' := [(cA1, .int)]) [0] rfl).app hK1
  generalize H1 = H at hP hS ⊢
  have hP : va_P (dC, dI) vwCl [(h0, .inr (3, [.ref a1, .ref a2, .ref a3, .ref a4, .ref a5])), (a1, .inl (cA1, 5, .inl (g)))] H := hP
  have hD : va_D A [(h0, .inr (3, [.ref a1, .ref a2, .ref a3, .ref a4, .ref a5])), (a1, .inl (cA1, 5, .inl (g)))] := hD
  have hK : va_K (dC, dI) vwCl [(cA1, .int)] s := hK
  refine W.widen (k := 0) (n := 0) (by omega) (by omega) ?_
  subst hw
  refine lv_icmp_lt (tgt := 17) hx hb dX3_full_10 (by decide) (fun _ => ?_) (fun c9 => absurd c9 (by decide))
  refine lv_iconst (v := 0) hx hb dX3_full_17 (by decide) ?_
  have hP9 := hP.sub (ws' := [(h0, .inr (3, [.ref a1, .ref a2, .ref a3, .ref a4, .ref a5])), (a1, .inl (cA1, 5, .inl (g)))]) [0, 1] rfl
  have hD9 := hD.sub (ws' := [(h0, .inr (3, [.ref a1, .ref a2, .ref a3, .ref a4, .ref a5])), (a1, .inl (cA1, 5, .inl (g)))]) [0, 1] (by decide) rfl
  have hK9 := hK.sub (tys' := [(cA1, .int)]) [0] rfl
  refine W.widen (k := 0) (n := 0) (by omega) (by omega) ?_
  exact W.zret (v := 0) hx hb hr (rfl) (fun t ht hW => ⟨⟨0, (), rfl, rfl, by rw [ht]; exact hP9, va_K.moved hW.alike hK9, hD9⟩, hS.F ht⟩) hS.2.2 dX3_full_18
set_option maxHeartbeats 1000000 in
set_option maxRecDepth 100000 in
/-- tell -/
theorem c_tell_0 (l : Launch) (dC : Nat → ClassId) (dI : Nat → Nat → Nat) (sz : Nat) (h0 a1 a2 a3 a4 a5 a6 : Nat) (cA1 cA2 cA3 cA4 cA5 cA6 : ClassId) (g : Nat → Int32) (g2 : Nat → Int64) (g3 g4 g5 g6 : Nat → Int32) (y : Int64) (hg : g 0 = 0) (h4 : g 4 = 0) (h2 : g 2 = 0) : Met l yX3_tell wsX3_tell ({ frames := 2, cells := 0, slots := 0, locals := 41 }) (va_Pc [.ref h0, .int 0, .long y, .int 0, .ref a6, .int 0] (fun U => U.heap.size = sz ∧ va_P (dC, dI) vwCl [(h0, .inr (3, [.ref a1, .ref a2, .ref a3, .ref a4, .ref a5])), (a1, .inl (cA1, 5, .inl (g))), (a2, .inl (cA2, 200, .inr (.inl (g2)))), (a3, .inl (cA3, 200, .inl (g3))), (a4, .inl (cA4, 200, .inl (g4))), (a5, .inl (cA5, 600, .inl (g5))), (a6, .inl (cA6, 3, .inl (g6)))] U.heap ∧ va_K (dC, dI) vwCl [(cA1, .int), (cA2, .long), (cA3, .int), (cA4, .int), (cA5, .int), (cA6, .int)] U ∧ va_D (fun _ => True) [(h0, .inr (3, [.ref a1, .ref a2, .ref a3, .ref a4, .ref a5])), (a1, .inl (cA1, 5, .inl (g))), (a2, .inl (cA2, 200, .inr (.inl (g2)))), (a3, .inl (cA3, 200, .inl (g3))), (a4, .inl (cA4, 200, .inl (g4))), (a5, .inl (cA5, 600, .inl (g5))), (a6, .inl (cA6, 3, .inl (g6)))])) (va_Qi (fun (r : Int32) (_ : Unit) => True) (fun _ t => ∃ (g9 : Nat → Int32) (f_4 : Nat → Int64) (f_5 : Nat → Int32) (f_6 : Nat → Int32), va_P (dC, dI) vwCl [(h0, .inr (3, [.ref a1, .ref a2, .ref a3, .ref a4, .ref a5])), (a1, .inl (cA1, 5, .inl (g9))), (a2, .inl (cA2, 200, .inr (.inl (f_4)))), (a3, .inl (cA3, 200, .inl (f_5))), (a4, .inl (cA4, 200, .inl (f_6))), (a5, .inl (cA5, 600, .inl (g5))), (a6, .inl (cA6, 3, .inl (g6)))] t.heap ∧ va_K (dC, dI) vwCl [(cA1, .int), (cA2, .long), (cA3, .int), (cA4, .int), (cA5, .int), (cA6, .int)] t ∧ va_D (va_A [(h0, .inr (3, [.ref a1, .ref a2, .ref a3, .ref a4, .ref a5])), (a1, .inl (cA1, 5, .inl (g))), (a2, .inl (cA2, 200, .inr (.inl (g2)))), (a3, .inl (cA3, 200, .inl (g3))), (a4, .inl (cA4, 200, .inl (g4))), (a5, .inl (cA5, 600, .inl (g5))), (a6, .inl (cA6, 3, .inl (g6)))] sz) [(h0, .inr (3, [.ref a1, .ref a2, .ref a3, .ref a4, .ref a5])), (a1, .inl (cA1, 5, .inl (g9))), (a2, .inl (cA2, 200, .inr (.inl (f_4)))), (a3, .inl (cA3, 200, .inl (f_5))), (a4, .inl (cA4, 200, .inl (f_6))), (a5, .inl (cA5, 600, .inl (g5))), (a6, .inl (cA6, 3, .inl (g6)))] ∧ g9 4 = 0 ∧ g9 2 = 0) (va_A [(h0, .inr (3, [.ref a1, .ref a2, .ref a3, .ref a4, .ref a5])), (a1, .inl (cA1, 5, .inl (g))), (a2, .inl (cA2, 200, .inr (.inl (g2)))), (a3, .inl (cA3, 200, .inl (g3))), (a4, .inl (cA4, 200, .inl (g4))), (a5, .inl (cA5, 600, .inl (g5))), (a6, .inl (cA6, 3, .inl (g6)))] sz)) (0) (0) (va_A [(h0, .inr (3, [.ref a1, .ref a2, .ref a3, .ref a4, .ref a5])), (a1, .inl (cA1, 5, .inl (g))), (a2, .inl (cA2, 200, .inr (.inl (g2)))), (a3, .inl (cA3, 200, .inl (g3))), (a4, .inl (cA4, 200, .inl (g4))), (a5, .inl (cA5, 600, .inl (g5))), (a6, .inl (cA6, 3, .inl (g6)))] sz) := by
  refine Met.ofW (cc := cX3_tell) (maxL := 9) (ret := (some .int)) (by decide) rfl ?_
  intro p e s m args below meth c s₁ B hml hv
  obtain ⟨rfl, hsz, hP, hK, hD0⟩ := hv
  have hx := B.exec
  have hb := B.bytes
  have hr := B.returns
  have hts := atoms_spec (ws := wsX3_tell) B.pre
  have hown : s.vm.findClass RX3 = some m.cls := findClass_of_methodNamed B.named
  have hlocks := B.notSynchronized
  subst hsz
  have hD := hD0.self (sz := s.heap.size)
  generalize hAe : va_A [(h0, .inr (3, [.ref a1, .ref a2, .ref a3, .ref a4, .ref a5])), (a1, .inl (cA1, 5, .inl (g))), (a2, .inl (cA2, 200, .inr (.inl (g2)))), (a3, .inl (cA3, 200, .inl (g3))), (a4, .inl (cA4, 200, .inl (g4))), (a5, .inl (cA5, 600, .inl (g5))), (a6, .inl (cA6, 3, .inl (g6)))] s.heap.size = A at hD ⊢
  have hA : ∀ q : Nat, s.heap.size ≤ q → A q := fun q h => by rw [← hAe]; exact Or.inr h
  have hS : va_S A s.heap s.heap [] := va_S.rf
  have hl := lv_entry ([.ref h0, .int 0, .long y, .int 0, .ref a6, .int 0]) (n := 9) (Nat.le_of_ble_eq_true rfl)
  rw [lg_entry_eq]
  generalize (lg_sl ([.ref h0, .int 0, .long y, .int 0, .ref a6, .int 0]) ++ List.replicate (9 - (lg_sl ([.ref h0, .int 0, .long y, .int 0, .ref a6, .int 0])).length) Slot.unset).toArray = ls at hl ⊢
  have hl : lv_has ls 9 [(0, .ref h0), (1, .int 0), (2, .long y), (4, .int 0), (5, .ref a6), (6, .int 0)] := hl
  refine lv_aload_n hx hb dX3_tell_0 rfl (lv_at hl 0 rfl) ?_
  refine lv_iload_n hx hb dX3_tell_1 rfl (lv_at hl 1 rfl) ?_
  have hPc := hP.sub (ws' := [(h0, .inr (3, [.ref a1, .ref a2, .ref a3, .ref a4, .ref a5])), (a1, .inl (cA1, 5, .inl (g)))]) [0, 1] rfl
  have hDc := hD.sub (ws' := [(h0, .inr (3, [.ref a1, .ref a2, .ref a3, .ref a4, .ref a5])), (a1, .inl (cA1, 5, .inl (g)))]) [0, 1] (by decide) rfl
  have hKc := hK.sub (tys' := [(cA1, .int)]) [0] rfl
  have hFc := va_free (wc := [(h0, .inr (3, [.ref a1, .ref a2, .ref a3, .ref a4, .ref a5])), (a1, .inl (cA1, 5, .inl (g)))]) hD hS hA [0, 1] rfl
  refine va_calli (va_runV (As := [.int 0]) (rest := []) ⟨hx, hb, hml, hown, hts⟩ (c_full_0 l dC dI s.heap.size h0 a1 a2 a3 a4 a5 cA1 g hg) (cwV 1 hts gX3_tell_X3_full rfl rfl rfl (by decide +kernel) ⟨Nat.le_of_ble_eq_true rfl, Nat.le_of_ble_eq_true rfl⟩) ⟨fun a U g mk q => by obtain ⟨q0, q1, qP, qK, qD⟩ := q; exact ⟨q0, q1, qP, va_K.moved (u := U) (U := U.calling g mk a) (Vm.Alike.refl U.vm) qK, qD⟩, va_recv hKc hPc (ci := 3) (q0 := 0) rfl rfl, fun U hU hW => ⟨rfl, by rw [hU], by rw [hU]; exact hPc, va_K.moved hW.alike hKc, hDc.weaken (fun _ _ _ _ => trivial)⟩⟩ rfl rfl hl.1 rfl (lv_room (Nat.le_of_ble_eq_true rfl)) dX3_tell_2 ⟨(show 0 + 0 ≤ 0 by omega), (show 0 + 0 ≤ 0 by omega)⟩) hS (fun q _ h => hFc q h) hFc (fun r0 u t H1 locs ht hvm hw hB hz1 hk1 hS => ?_)
  obtain ⟨hP1, hK1, hD1⟩ := hB
  rw [ht] at hP1
  have hK1 := va_K.moved hvm.symm hK1
  obtain ⟨hP, hD⟩ := va_join (wr := [(a2, .inl (cA2, 200, .inr (.inl (g2)))), (a3, .inl (cA3, 200, .inl (g3))), (a4, .inl (cA4, 200, .inl (g4))), (a5, .inl (cA5, 600, .inl (g5))), (a6, .inl (cA6, 3, .inl (g6)))]) (w1 := [(h0, .inr (3, [.ref a1, .ref a2, .ref a3, .ref a4, .ref a5])), (a1, .inl (cA1, 5, .inl (g)))]) hP hD [0, 1] [2, 3, 4, 5, 6] rfl rfl (by decide) (by decide) hk1 hFc hP1 hD1
  have hK := (hK.sub (tys' := [(cA1, .int), (cA2, .long), (cA3, .int), (cA4, .int), (cA5, .int), (cA6, .int)]) [0, 1, 2, 3, 4, 5] rfl).app hK1
  generalize H1 = H at hP hS ⊢
  have hP : va_P (dC, dI) vwCl [(a2, .inl (cA2, 200, .inr (.inl (g2)))), (a3, .inl (cA3, 200, .inl (g3))), (a4, .inl (cA4, 200, .inl (g4))), (a5, .inl (cA5, 600, .inl (g5))), (a6, .inl (cA6, 3, .inl (g6))), (h0, .inr (3, [.ref a1, .ref a2, .ref a3, .ref a4, .ref a5])), (a1, .inl (cA1, 5, .inl (g)))] H := hP
  have hD : va_D A [(a2, .inl (cA2, 200, .inr (.inl (g2)))), (a3, .inl (cA3, 200, .inl (g3))), (a4, .inl (cA4, 200, .inl (g4))), (a5, .inl (cA5, 600, .inl (g5))), (a6, .inl (cA6, 3, .inl (g6))), (h0, .inr (3, [.ref a1, .ref a2, .ref a3, .ref a4, .ref a5])), (a1, .inl (cA1, 5, .inl (g)))] := hD
  have hK : va_K (dC, dI) vwCl [(cA1, .int), (cA2, .long), (cA3, .int), (cA4, .int), (cA5, .int), (cA6, .int), (cA1, .int)] s := hK
  refine W.widen (k := 0) (n := 0) (by omega) (by omega) ?_
  have hK := hK.sub (tys' := [(cA1, .int), (cA2, .long), (cA3, .int), (cA4, .int), (cA5, .int), (cA6, .int)]) [0, 1, 2, 3, 4, 5] rfl
  subst hw
  refine lv_if_eq (tgt := 11) hx hb dX3_tell_5 (by decide) (fun _ => ?_) (fun c9 => absurd c9 (by decide))
  refine lv_iload_n hx hb dX3_tell_11 rfl (lv_at hl 1 rfl) ?_
  refine lv_bipush (v := 40) hx hb dX3_tell_12 (by decide) ?_
  refine lv_imul hx hb dX3_tell_14 ?_
  refine lv_topi (fun z_1 e9 => ?_)
  obtain rfl : z_1 = 0 := by rw [e9]; decide
  refine lv_aload_n hx hb dX3_tell_15 rfl (lv_at hl 0 rfl) ?_
  refine va_get (D := (dC, dI)) (ci := 3) (v := .ref a1) (C := RX3) (T := TX3) (N := 5) hx hb hts (by decide +kernel) hown hK hP 5 rfl rfl 0 (by decide) (hts (.fieldLink RX3 9 "ProofBench$Names" "counts" "[I") (by decide +kernel)) (fun _ h9 => h9) rfl dX3_tell_16 ?_
  refine lv_iload_n hx hb dX3_tell_19 rfl (lv_at hl 1 rfl) ?_
  refine va_iald hx hb hK hP 6 0 rfl rfl (show vp_in (0) 5 from by unfold vp_in; decide) dX3_tell_20 ?_
  refine lv_topi (fun z_2 e9 => ?_)
  obtain rfl : z_2 = 0 := by rw [e9]; exact hg
  refine lv_iadd hx hb dX3_tell_21 ?_
  refine lv_topi (fun z_3 e9 => ?_)
  obtain rfl : z_3 = 0 := by rw [e9]; decide
  refine lv_istore (lv' := [(7, .int 0), (0, .ref h0), (1, .int 0), (2, .long y), (4, .int 0), (5, .ref a6), (6, .int 0)]) hx hb dX3_tell_22 hl (by decide) rfl (fun ls hl => ?_)
  refine lv_aload_n hx hb dX3_tell_24 rfl (lv_at hl 1 rfl) ?_
  refine va_get (D := (dC, dI)) (ci := 3) (v := .ref a2) (C := RX3) (T := TX3) (N := 5) hx hb hts (by decide +kernel) hown hK hP 5 rfl rfl 1 (by decide) (hts (.fieldLink RX3 15 "ProofBench$Names" "keys" "[J") (by decide +kernel)) (fun _ h9 => h9) rfl dX3_tell_25 ?_
  refine lv_iload hx hb dX3_tell_28 (lv_at hl 0 rfl) ?_
  refine lv_lload_n hx hb dX3_tell_30 rfl (lv_at hl 3 rfl) ?_
  refine va_last hx hb hK hP hD hS 0 1 rfl rfl (show vp_in (0) 200 from by unfold vp_in; decide) dX3_tell_31 (fun H locs hP hD hS => ?_)
  obtain ⟨f_4, hP, hD⟩ : ∃ f9 : Nat → Int64, va_P (dC, dI) vwCl [(a2, .inl (cA2, 200, .inr (.inl (f9)))), (a3, .inl (cA3, 200, .inl (g3))), (a4, .inl (cA4, 200, .inl (g4))), (a5, .inl (cA5, 600, .inl (g5))), (a6, .inl (cA6, 3, .inl (g6))), (h0, .inr (3, [.ref a1, .ref a2, .ref a3, .ref a4, .ref a5])), (a1, .inl (cA1, 5, .inl (g)))] H ∧ va_D A [(a2, .inl (cA2, 200, .inr (.inl (f9)))), (a3, .inl (cA3, 200, .inl (g3))), (a4, .inl (cA4, 200, .inl (g4))), (a5, .inl (cA5, 600, .inl (g5))), (a6, .inl (cA6, 3, .inl (g6))), (h0, .inr (3, [.ref a1, .ref a2, .ref a3, .ref a4, .ref a5])), (a1, .inl (cA1, 5, .inl (g)))] := ⟨_, hP, hD⟩
  refine lv_aload_n hx hb dX3_tell_32 rfl (lv_at hl 1 rfl) ?_
  refine va_get (D := (dC, dI)) (ci := 3) (v := .ref a3) (C := RX3) (T := TX3) (N := 5) hx hb hts (by decide +kernel) hown hK hP 5 rfl rfl 2 (by decide) (hts (.fieldLink RX3 19 "ProofBench$Names" "sorts" "[I") (by decide +kernel)) (fun _ h9 => h9) rfl dX3_tell_33 ?_
  refine lv_iload hx hb dX3_tell_36 (lv_at hl 0 rfl) ?_
  refine lv_iload hx hb dX3_tell_38 (lv_at hl 4 rfl) ?_
  refine va_iast hx hb hK hP hD hS 1 2 rfl rfl (show vp_in (0) 200 from by unfold vp_in; decide) dX3_tell_40 (fun H locs hP hD hS => ?_)
  obtain ⟨f_5, hP, hD⟩ : ∃ f9 : Nat → Int32, va_P (dC, dI) vwCl [(a2, .inl (cA2, 200, .inr (.inl (f_4)))), (a3, .inl (cA3, 200, .inl (f9))), (a4, .inl (cA4, 200, .inl (g4))), (a5, .inl (cA5, 600, .inl (g5))), (a6, .inl (cA6, 3, .inl (g6))), (h0, .inr (3, [.ref a1, .ref a2, .ref a3, .ref a4, .ref a5])), (a1, .inl (cA1, 5, .inl (g)))] H ∧ va_D A [(a2, .inl (cA2, 200, .inr (.inl (f_4)))), (a3, .inl (cA3, 200, .inl (f9))), (a4, .inl (cA4, 200, .inl (g4))), (a5, .inl (cA5, 600, .inl (g5))), (a6, .inl (cA6, 3, .inl (g6))), (h0, .inr (3, [.ref a1, .ref a2, .ref a3, .ref a4, .ref a5])), (a1, .inl (cA1, 5, .inl (g)))] := ⟨_, hP, hD⟩
  refine lv_aload_n hx hb dX3_tell_41 rfl (lv_at hl 1 rfl) ?_
  refine va_get (D := (dC, dI)) (ci := 3) (v := .ref a4) (C := RX3) (T := TX3) (N := 5) hx hb hts (by decide +kernel) hown hK hP 5 rfl rfl 3 (by decide) (hts (.fieldLink RX3 22 "ProofBench$Names" "arities" "[I") (by decide +kernel)) (fun _ h9 => h9) rfl dX3_tell_42 ?_
  refine lv_iload hx hb dX3_tell_45 (lv_at hl 0 rfl) ?_
  refine lv_iload hx hb dX3_tell_47 (lv_at hl 6 rfl) ?_
  refine va_iast hx hb hK hP hD hS 2 3 rfl rfl (show vp_in (0) 200 from by unfold vp_in; decide) dX3_tell_49 (fun H locs hP hD hS => ?_)
  obtain ⟨f_6, hP, hD⟩ : ∃ f9 : Nat → Int32, va_P (dC, dI) vwCl [(a2, .inl (cA2, 200, .inr (.inl (f_4)))), (a3, .inl (cA3, 200, .inl (f_5))), (a4, .inl (cA4, 200, .inl (f9))), (a5, .inl (cA5, 600, .inl (g5))), (a6, .inl (cA6, 3, .inl (g6))), (h0, .inr (3, [.ref a1, .ref a2, .ref a3, .ref a4, .ref a5])), (a1, .inl (cA1, 5, .inl (g)))] H ∧ va_D A [(a2, .inl (cA2, 200, .inr (.inl (f_4)))), (a3, .inl (cA3, 200, .inl (f_5))), (a4, .inl (cA4, 200, .inl (f9))), (a5, .inl (cA5, 600, .inl (g5))), (a6, .inl (cA6, 3, .inl (g6))), (h0, .inr (3, [.ref a1, .ref a2, .ref a3, .ref a4, .ref a5])), (a1, .inl (cA1, 5, .inl (g)))] := ⟨_, hP, hD⟩
  refine lv_iconst (v := 0) hx hb dX3_tell_50 (by decide) ?_
  refine lv_istore (lv' := [(8, .int 0), (7, .int 0), (0, .ref h0), (1, .int 0), (2, .long y), (4, .int 0), (5, .ref a6), (6, .int 0)]) hx hb dX3_tell_51 hl (by decide) rfl (fun ls hl => ?_)
  refine lv_iload hx hb dX3_tell_53 (lv_at hl 0 rfl) ?_
  refine lv_iload hx hb dX3_tell_55 (lv_at hl 7 rfl) ?_
  refine lv_icmp_ge (tgt := 97) hx hb dX3_tell_57 (by decide) (fun _ => ?_) (fun c9 => absurd c9 (by decide))
  refine lv_aload_n hx hb dX3_tell_97 rfl (lv_at hl 2 rfl) ?_
  refine va_get (D := (dC, dI)) (ci := 3) (v := .ref a1) (C := RX3) (T := TX3) (N := 5) hx hb hts (by decide +kernel) hown hK hP 5 rfl rfl 0 (by decide) (hts (.fieldLink RX3 9 "ProofBench$Names" "counts" "[I") (by decide +kernel)) (fun _ h9 => h9) rfl dX3_tell_98 ?_
  refine lv_iload_n hx hb dX3_tell_101 rfl (lv_at hl 3 rfl) ?_
  refine lv_dup2_11 hx hb dX3_tell_102 rfl rfl ?_
  refine va_iald hx hb hK hP 6 0 rfl rfl (show vp_in (0) 5 from by unfold vp_in; decide) dX3_tell_103 ?_
  refine lv_topi (fun z_7 e9 => ?_)
  obtain rfl : z_7 = 0 := by rw [e9]; exact hg
  refine lv_iconst (v := 1) hx hb dX3_tell_104 (by decide) ?_
  refine lv_iadd hx hb dX3_tell_105 ?_
  refine lv_topi (fun z_8 e9 => ?_)
  obtain rfl : z_8 = 1 := by rw [e9]; decide
  refine va_iast hx hb hK hP hD hS 6 0 rfl rfl (show vp_in (0) 5 from by unfold vp_in; decide) dX3_tell_106 (fun H locs hP hD hS => ?_)
  obtain ⟨g9, hP, hD, hg4, hg2⟩ : ∃ g9 : Nat → Int32, va_P (dC, dI) vwCl [(a2, .inl (cA2, 200, .inr (.inl (f_4)))), (a3, .inl (cA3, 200, .inl (f_5))), (a4, .inl (cA4, 200, .inl (f_6))), (a5, .inl (cA5, 600, .inl (g5))), (a6, .inl (cA6, 3, .inl (g6))), (h0, .inr (3, [.ref a1, .ref a2, .ref a3, .ref a4, .ref a5])), (a1, .inl (cA1, 5, .inl (g9)))] H ∧ va_D A [(a2, .inl (cA2, 200, .inr (.inl (f_4)))), (a3, .inl (cA3, 200, .inl (f_5))), (a4, .inl (cA4, 200, .inl (f_6))), (a5, .inl (cA5, 600, .inl (g5))), (a6, .inl (cA6, 3, .inl (g6))), (h0, .inr (3, [.ref a1, .ref a2, .ref a3, .ref a4, .ref a5])), (a1, .inl (cA1, 5, .inl (g9)))] ∧ g9 4 = 0 ∧ g9 2 = 0 := ⟨_, hP, hD, (pk_un (by decide)).trans h4, (pk_un (by decide)).trans h2⟩
  refine lv_iconst (v := 0) hx hb dX3_tell_107 (by decide) ?_
  have hP9 := hP.sub (ws' := [(h0, .inr (3, [.ref a1, .ref a2, .ref a3, .ref a4, .ref a5])), (a1, .inl (cA1, 5, .inl (g9))), (a2, .inl (cA2, 200, .inr (.inl (f_4)))), (a3, .inl (cA3, 200, .inl (f_5))), (a4, .inl (cA4, 200, .inl (f_6))), (a5, .inl (cA5, 600, .inl (g5))), (a6, .inl (cA6, 3, .inl (g6)))]) [5, 6, 0, 1, 2, 3, 4] rfl
  have hD9 := hD.sub (ws' := [(h0, .inr (3, [.ref a1, .ref a2, .ref a3, .ref a4, .ref a5])), (a1, .inl (cA1, 5, .inl (g9))), (a2, .inl (cA2, 200, .inr (.inl (f_4)))), (a3, .inl (cA3, 200, .inl (f_5))), (a4, .inl (cA4, 200, .inl (f_6))), (a5, .inl (cA5, 600, .inl (g5))), (a6, .inl (cA6, 3, .inl (g6)))]) [5, 6, 0, 1, 2, 3, 4] (by decide) rfl
  exact W.iret (v := 0) hx hb hr (fun t ht hW => ⟨⟨0, (), rfl, trivial, g9, f_4, f_5, f_6, by rw [ht]; exact hP9, va_K.moved hW.alike hK, hD9, hg4, hg2⟩, hS.F ht⟩) hS.2.2 dX3_tell_108
set_option maxHeartbeats 1000000 in
set_option maxRecDepth 100000 in
/-- tell -/
theorem c_tell_2 (l : Launch) (dC : Nat → ClassId) (dI : Nat → Nat → Nat) (sz : Nat) (h0 a1 a2 a3 a4 a5 a6 : Nat) (cA1 cA2 cA3 cA4 cA5 cA6 : ClassId) (g : Nat → Int32) (g2 : Nat → Int64) (g3 g4 g5 g6 : Nat → Int32) (y : Int64) (hg : g 2 = 0) (h4 : g 4 = 0) : Met l yX3_tell wsX3_tell ({ frames := 2, cells := 0, slots := 0, locals := 41 }) (va_Pc [.ref h0, .int 2, .long y, .int 0, .ref a6, .int 1] (fun U => U.heap.size = sz ∧ va_P (dC, dI) vwCl [(h0, .inr (3, [.ref a1, .ref a2, .ref a3, .ref a4, .ref a5])), (a1, .inl (cA1, 5, .inl (g))), (a2, .inl (cA2, 200, .inr (.inl (g2)))), (a3, .inl (cA3, 200, .inl (g3))), (a4, .inl (cA4, 200, .inl (g4))), (a5, .inl (cA5, 600, .inl (g5))), (a6, .inl (cA6, 3, .inl (g6)))] U.heap ∧ va_K (dC, dI) vwCl [(cA1, .int), (cA2, .long), (cA3, .int), (cA4, .int), (cA5, .int), (cA6, .int)] U ∧ va_D (fun _ => True) [(h0, .inr (3, [.ref a1, .ref a2, .ref a3, .ref a4, .ref a5])), (a1, .inl (cA1, 5, .inl (g))), (a2, .inl (cA2, 200, .inr (.inl (g2)))), (a3, .inl (cA3, 200, .inl (g3))), (a4, .inl (cA4, 200, .inl (g4))), (a5, .inl (cA5, 600, .inl (g5))), (a6, .inl (cA6, 3, .inl (g6)))])) (va_Qi (fun (r : Int32) (_ : Unit) => True) (fun _ t => ∃ (g9 : Nat → Int32) (f_4 : Nat → Int64) (f_5 : Nat → Int32) (f_6 : Nat → Int32) (f_10 : Nat → Int32), va_P (dC, dI) vwCl [(h0, .inr (3, [.ref a1, .ref a2, .ref a3, .ref a4, .ref a5])), (a1, .inl (cA1, 5, .inl (g9))), (a2, .inl (cA2, 200, .inr (.inl (f_4)))), (a3, .inl (cA3, 200, .inl (f_5))), (a4, .inl (cA4, 200, .inl (f_6))), (a5, .inl (cA5, 600, .inl (f_10))), (a6, .inl (cA6, 3, .inl (g6)))] t.heap ∧ va_K (dC, dI) vwCl [(cA1, .int), (cA2, .long), (cA3, .int), (cA4, .int), (cA5, .int), (cA6, .int)] t ∧ va_D (va_A [(h0, .inr (3, [.ref a1, .ref a2, .ref a3, .ref a4, .ref a5])), (a1, .inl (cA1, 5, .inl (g))), (a2, .inl (cA2, 200, .inr (.inl (g2)))), (a3, .inl (cA3, 200, .inl (g3))), (a4, .inl (cA4, 200, .inl (g4))), (a5, .inl (cA5, 600, .inl (g5))), (a6, .inl (cA6, 3, .inl (g6)))] sz) [(h0, .inr (3, [.ref a1, .ref a2, .ref a3, .ref a4, .ref a5])), (a1, .inl (cA1, 5, .inl (g9))), (a2, .inl (cA2, 200, .inr (.inl (f_4)))), (a3, .inl (cA3, 200, .inl (f_5))), (a4, .inl (cA4, 200, .inl (f_6))), (a5, .inl (cA5, 600, .inl (f_10))), (a6, .inl (cA6, 3, .inl (g6)))] ∧ g9 4 = 0) (va_A [(h0, .inr (3, [.ref a1, .ref a2, .ref a3, .ref a4, .ref a5])), (a1, .inl (cA1, 5, .inl (g))), (a2, .inl (cA2, 200, .inr (.inl (g2)))), (a3, .inl (cA3, 200, .inl (g3))), (a4, .inl (cA4, 200, .inl (g4))), (a5, .inl (cA5, 600, .inl (g5))), (a6, .inl (cA6, 3, .inl (g6)))] sz)) (0) (0) (va_A [(h0, .inr (3, [.ref a1, .ref a2, .ref a3, .ref a4, .ref a5])), (a1, .inl (cA1, 5, .inl (g))), (a2, .inl (cA2, 200, .inr (.inl (g2)))), (a3, .inl (cA3, 200, .inl (g3))), (a4, .inl (cA4, 200, .inl (g4))), (a5, .inl (cA5, 600, .inl (g5))), (a6, .inl (cA6, 3, .inl (g6)))] sz) := by
  refine Met.ofW (cc := cX3_tell) (maxL := 9) (ret := (some .int)) (by decide) rfl ?_
  intro p e s m args below meth c s₁ B hml hv
  obtain ⟨rfl, hsz, hP, hK, hD0⟩ := hv
  have hx := B.exec
  have hb := B.bytes
  have hr := B.returns
  have hts := atoms_spec (ws := wsX3_tell) B.pre
  have hown : s.vm.findClass RX3 = some m.cls := findClass_of_methodNamed B.named
  have hlocks := B.notSynchronized
  subst hsz
  have hD := hD0.self (sz := s.heap.size)
  generalize hAe : va_A [(h0, .inr (3, [.ref a1, .ref a2, .ref a3, .ref a4, .ref a5])), (a1, .inl (cA1, 5, .inl (g))), (a2, .inl (cA2, 200, .inr (.inl (g2)))), (a3, .inl (cA3, 200, .inl (g3))), (a4, .inl (cA4, 200, .inl (g4))), (a5, .inl (cA5, 600, .inl (g5))), (a6, .inl (cA6, 3, .inl (g6)))] s.heap.size = A at hD ⊢
  have hA : ∀ q : Nat, s.heap.size ≤ q → A q := fun q h => by rw [← hAe]; exact Or.inr h
  have hS : va_S A s.heap s.heap [] := va_S.rf
  have hl := lv_entry ([.ref h0, .int 2, .long y, .int 0, .ref a6, .int 1]) (n := 9) (Nat.le_of_ble_eq_true rfl)
  rw [lg_entry_eq]
  generalize (lg_sl ([.ref h0, .int 2, .long y, .int 0, .ref a6, .int 1]) ++ List.replicate (9 - (lg_sl ([.ref h0, .int 2, .long y, .int 0, .ref a6, .int 1])).length) Slot.unset).toArray = ls at hl ⊢
  have hl : lv_has ls 9 [(0, .ref h0), (1, .int 2), (2, .long y), (4, .int 0), (5, .ref a6), (6, .int 1)] := hl
  refine lv_aload_n hx hb dX3_tell_0 rfl (lv_at hl 0 rfl) ?_
  refine lv_iload_n hx hb dX3_tell_1 rfl (lv_at hl 1 rfl) ?_
  have hPc := hP.sub (ws' := [(h0, .inr (3, [.ref a1, .ref a2, .ref a3, .ref a4, .ref a5])), (a1, .inl (cA1, 5, .inl (g)))]) [0, 1] rfl
  have hDc := hD.sub (ws' := [(h0, .inr (3, [.ref a1, .ref a2, .ref a3, .ref a4, .ref a5])), (a1, .inl (cA1, 5, .inl (g)))]) [0, 1] (by decide) rfl
  have hKc := hK.sub (tys' := [(cA1, .int)]) [0] rfl
  have hFc := va_free (wc := [(h0, .inr (3, [.ref a1, .ref a2, .ref a3, .ref a4, .ref a5])), (a1, .inl (cA1, 5, .inl (g)))]) hD hS hA [0, 1] rfl
  refine va_calli (va_runV (As := [.int 2]) (rest := []) ⟨hx, hb, hml, hown, hts⟩ (c_full_2 l dC dI s.heap.size h0 a1 a2 a3 a4 a5 cA1 g hg) (cwV 1 hts gX3_tell_X3_full rfl rfl rfl (by decide +kernel) ⟨Nat.le_of_ble_eq_true rfl, Nat.le_of_ble_eq_true rfl⟩) ⟨fun a U g mk q => by obtain ⟨q0, q1, qP, qK, qD⟩ := q; exact ⟨q0, q1, qP, va_K.moved (u := U) (U := U.calling g mk a) (Vm.Alike.refl U.vm) qK, qD⟩, va_recv hKc hPc (ci := 3) (q0 := 0) rfl rfl, fun U hU hW => ⟨rfl, by rw [hU], by rw [hU]; exact hPc, va_K.moved hW.alike hKc, hDc.weaken (fun _ _ _ _ => trivial)⟩⟩ rfl rfl hl.1 rfl (lv_room (Nat.le_of_ble_eq_true rfl)) dX3_tell_2 ⟨(show 0 + 0 ≤ 0 by omega), (show 0 + 0 ≤ 0 by omega)⟩) hS (fun q _ h => hFc q h) hFc (fun r0 u t H1 locs ht hvm hw hB hz1 hk1 hS => ?_)
  obtain ⟨hP1, hK1, hD1⟩ := hB
  rw [ht] at hP1
  have hK1 := va_K.moved hvm.symm hK1
  obtain ⟨hP, hD⟩ := va_join (wr := [(a2, .inl (cA2, 200, .inr (.inl (g2)))), (a3, .inl (cA3, 200, .inl (g3))), (a4, .inl (cA4, 200, .inl (g4))), (a5, .inl (cA5, 600, .inl (g5))), (a6, .inl (cA6, 3, .inl (g6)))]) (w1 := [(h0, .inr (3, [.ref a1, .ref a2, .ref a3, .ref a4, .ref a5])), (a1, .inl (cA1, 5, .inl (g)))]) hP hD [0, 1] [2, 3, 4, 5, 6] rfl rfl (by decide) (by decide) hk1 hFc hP1 hD1
  have hK := (hK.sub (tys' := [(cA1, .int), (cA2, .long), (cA3, .int), (cA4, .int), (cA5, .int), (cA6, .int)]) [0, 1, 2, 3, 4, 5] rfl).app hK1
  generalize H1 = H at hP hS ⊢
  have hP : va_P (dC, dI) vwCl [(a2, .inl (cA2, 200, .inr (.inl (g2)))), (a3, .inl (cA3, 200, .inl (g3))), (a4, .inl (cA4, 200, .inl (g4))), (a5, .inl (cA5, 600, .inl (g5))), (a6, .inl (cA6, 3, .inl (g6))), (h0, .inr (3, [.ref a1, .ref a2, .ref a3, .ref a4, .ref a5])), (a1, .inl (cA1, 5, .inl (g)))] H := hP
  have hD : va_D A [(a2, .inl (cA2, 200, .inr (.inl (g2)))), (a3, .inl (cA3, 200, .inl (g3))), (a4, .inl (cA4, 200, .inl (g4))), (a5, .inl (cA5, 600, .inl (g5))), (a6, .inl (cA6, 3, .inl (g6))), (h0, .inr (3, [.ref a1, .ref a2, .ref a3, .ref a4, .ref a5])), (a1, .inl (cA1, 5, .inl (g)))] := hD
  have hK : va_K (dC, dI) vwCl [(cA1, .int), (cA2, .long), (cA3, .int), (cA4, .int), (cA5, .int), (cA6, .int), (cA1, .int)] s := hK
  refine W.widen (k := 0) (n := 0) (by omega) (by omega) ?_
  have hK := hK.sub (tys' := [(cA1, .int), (cA2, .long), (cA3, .int), (cA4, .int), (cA5, .int), (cA6, .int)]) [0, 1, 2, 3, 4, 5] rfl
  subst hw
  refine lv_if_eq (tgt := 11) hx hb dX3_tell_5 (by decide) (fun _ => ?_) (fun c9 => absurd c9 (by decide))
  refine lv_iload_n hx hb dX3_tell_11 rfl (lv_at hl 1 rfl) ?_
  refine lv_bipush (v := 40) hx hb dX3_tell_12 (by decide) ?_
  refine lv_imul hx hb dX3_tell_14 ?_
  refine lv_topi (fun z_1 e9 => ?_)
  obtain rfl : z_1 = 80 := by rw [e9]; decide
  refine lv_aload_n hx hb dX3_tell_15 rfl (lv_at hl 0 rfl) ?_
  refine va_get (D := (dC, dI)) (ci := 3) (v := .ref a1) (C := RX3) (T := TX3) (N := 5) hx hb hts (by decide +kernel) hown hK hP 5 rfl rfl 0 (by decide) (hts (.fieldLink RX3 9 "ProofBench$Names" "counts" "[I") (by decide +kernel)) (fun _ h9 => h9) rfl dX3_tell_16 ?_
  refine lv_iload_n hx hb dX3_tell_19 rfl (lv_at hl 1 rfl) ?_
  refine va_iald hx hb hK hP 6 0 rfl rfl (show vp_in (2) 5 from by unfold vp_in; decide) dX3_tell_20 ?_
  refine lv_topi (fun z_2 e9 => ?_)
  obtain rfl : z_2 = 0 := by rw [e9]; exact hg
  refine lv_iadd hx hb dX3_tell_21 ?_
  refine lv_topi (fun z_3 e9 => ?_)
  obtain rfl : z_3 = 80 := by rw [e9]; decide
  refine lv_istore (lv' := [(7, .int 80), (0, .ref h0), (1, .int 2), (2, .long y), (4, .int 0), (5, .ref a6), (6, .int 1)]) hx hb dX3_tell_22 hl (by decide) rfl (fun ls hl => ?_)
  refine lv_aload_n hx hb dX3_tell_24 rfl (lv_at hl 1 rfl) ?_
  refine va_get (D := (dC, dI)) (ci := 3) (v := .ref a2) (C := RX3) (T := TX3) (N := 5) hx hb hts (by decide +kernel) hown hK hP 5 rfl rfl 1 (by decide) (hts (.fieldLink RX3 15 "ProofBench$Names" "keys" "[J") (by decide +kernel)) (fun _ h9 => h9) rfl dX3_tell_25 ?_
  refine lv_iload hx hb dX3_tell_28 (lv_at hl 0 rfl) ?_
  refine lv_lload_n hx hb dX3_tell_30 rfl (lv_at hl 3 rfl) ?_
  refine va_last hx hb hK hP hD hS 0 1 rfl rfl (show vp_in (80) 200 from by unfold vp_in; decide) dX3_tell_31 (fun H locs hP hD hS => ?_)
  obtain ⟨f_4, hP, hD⟩ : ∃ f9 : Nat → Int64, va_P (dC, dI) vwCl [(a2, .inl (cA2, 200, .inr (.inl (f9)))), (a3, .inl (cA3, 200, .inl (g3))), (a4, .inl (cA4, 200, .inl (g4))), (a5, .inl (cA5, 600, .inl (g5))), (a6, .inl (cA6, 3, .inl (g6))), (h0, .inr (3, [.ref a1, .ref a2, .ref a3, .ref a4, .ref a5])), (a1, .inl (cA1, 5, .inl (g)))] H ∧ va_D A [(a2, .inl (cA2, 200, .inr (.inl (f9)))), (a3, .inl (cA3, 200, .inl (g3))), (a4, .inl (cA4, 200, .inl (g4))), (a5, .inl (cA5, 600, .inl (g5))), (a6, .inl (cA6, 3, .inl (g6))), (h0, .inr (3, [.ref a1, .ref a2, .ref a3, .ref a4, .ref a5])), (a1, .inl (cA1, 5, .inl (g)))] := ⟨_, hP, hD⟩
  refine lv_aload_n hx hb dX3_tell_32 rfl (lv_at hl 1 rfl) ?_
  refine va_get (D := (dC, dI)) (ci := 3) (v := .ref a3) (C := RX3) (T := TX3) (N := 5) hx hb hts (by decide +kernel) hown hK hP 5 rfl rfl 2 (by decide) (hts (.fieldLink RX3 19 "ProofBench$Names" "sorts" "[I") (by decide +kernel)) (fun _ h9 => h9) rfl dX3_tell_33 ?_
  refine lv_iload hx hb dX3_tell_36 (lv_at hl 0 rfl) ?_
  refine lv_iload hx hb dX3_tell_38 (lv_at hl 4 rfl) ?_
  refine va_iast hx hb hK hP hD hS 1 2 rfl rfl (show vp_in (80) 200 from by unfold vp_in; decide) dX3_tell_40 (fun H locs hP hD hS => ?_)
  obtain ⟨f_5, hP, hD⟩ : ∃ f9 : Nat → Int32, va_P (dC, dI) vwCl [(a2, .inl (cA2, 200, .inr (.inl (f_4)))), (a3, .inl (cA3, 200, .inl (f9))), (a4, .inl (cA4, 200, .inl (g4))), (a5, .inl (cA5, 600, .inl (g5))), (a6, .inl (cA6, 3, .inl (g6))), (h0, .inr (3, [.ref a1, .ref a2, .ref a3, .ref a4, .ref a5])), (a1, .inl (cA1, 5, .inl (g)))] H ∧ va_D A [(a2, .inl (cA2, 200, .inr (.inl (f_4)))), (a3, .inl (cA3, 200, .inl (f9))), (a4, .inl (cA4, 200, .inl (g4))), (a5, .inl (cA5, 600, .inl (g5))), (a6, .inl (cA6, 3, .inl (g6))), (h0, .inr (3, [.ref a1, .ref a2, .ref a3, .ref a4, .ref a5])), (a1, .inl (cA1, 5, .inl (g)))] := ⟨_, hP, hD⟩
  refine lv_aload_n hx hb dX3_tell_41 rfl (lv_at hl 1 rfl) ?_
  refine va_get (D := (dC, dI)) (ci := 3) (v := .ref a4) (C := RX3) (T := TX3) (N := 5) hx hb hts (by decide +kernel) hown hK hP 5 rfl rfl 3 (by decide) (hts (.fieldLink RX3 22 "ProofBench$Names" "arities" "[I") (by decide +kernel)) (fun _ h9 => h9) rfl dX3_tell_42 ?_
  refine lv_iload hx hb dX3_tell_45 (lv_at hl 0 rfl) ?_
  refine lv_iload hx hb dX3_tell_47 (lv_at hl 6 rfl) ?_
  refine va_iast hx hb hK hP hD hS 2 3 rfl rfl (show vp_in (80) 200 from by unfold vp_in; decide) dX3_tell_49 (fun H locs hP hD hS => ?_)
  obtain ⟨f_6, hP, hD⟩ : ∃ f9 : Nat → Int32, va_P (dC, dI) vwCl [(a2, .inl (cA2, 200, .inr (.inl (f_4)))), (a3, .inl (cA3, 200, .inl (f_5))), (a4, .inl (cA4, 200, .inl (f9))), (a5, .inl (cA5, 600, .inl (g5))), (a6, .inl (cA6, 3, .inl (g6))), (h0, .inr (3, [.ref a1, .ref a2, .ref a3, .ref a4, .ref a5])), (a1, .inl (cA1, 5, .inl (g)))] H ∧ va_D A [(a2, .inl (cA2, 200, .inr (.inl (f_4)))), (a3, .inl (cA3, 200, .inl (f_5))), (a4, .inl (cA4, 200, .inl (f9))), (a5, .inl (cA5, 600, .inl (g5))), (a6, .inl (cA6, 3, .inl (g6))), (h0, .inr (3, [.ref a1, .ref a2, .ref a3, .ref a4, .ref a5])), (a1, .inl (cA1, 5, .inl (g)))] := ⟨_, hP, hD⟩
  refine lv_iconst (v := 0) hx hb dX3_tell_50 (by decide) ?_
  refine lv_istore (lv' := [(8, .int 0), (7, .int 80), (0, .ref h0), (1, .int 2), (2, .long y), (4, .int 0), (5, .ref a6), (6, .int 1)]) hx hb dX3_tell_51 hl (by decide) rfl (fun ls hl => ?_)
  refine lv_iload hx hb dX3_tell_53 (lv_at hl 0 rfl) ?_
  refine lv_iload hx hb dX3_tell_55 (lv_at hl 7 rfl) ?_
  refine lv_icmp_ge (tgt := 97) hx hb dX3_tell_57 (by decide) (fun c9 => absurd c9 (by decide)) (fun _ => ?_)
  refine lv_iload hx hb dX3_tell_60 (lv_at hl 0 rfl) ?_
  refine lv_aload hx hb dX3_tell_62 (lv_at hl 6 rfl) ?_
  refine va_alen hx hb hK hP 4 5 rfl rfl (v := 3) (show Int32.ofNat 3 = 3 from by decide) dX3_tell_64 ?_
  refine lv_icmp_ge (tgt := 97) hx hb dX3_tell_65 (by decide) (fun c9 => absurd c9 (by decide)) (fun _ => ?_)
  refine lv_iload hx hb dX3_tell_68 (lv_at hl 0 rfl) ?_
  refine lv_iconst (v := 3) hx hb dX3_tell_70 (by decide) ?_
  refine lv_icmp_ge (tgt := 97) hx hb dX3_tell_71 (by decide) (fun c9 => absurd c9 (by decide)) (fun _ => ?_)
  refine lv_aload_n hx hb dX3_tell_74 rfl (lv_at hl 2 rfl) ?_
  refine va_get (D := (dC, dI)) (ci := 3) (v := .ref a5) (C := RX3) (T := TX3) (N := 5) hx hb hts (by decide +kernel) hown hK hP 5 rfl rfl 4 (by decide) (hts (.fieldLink RX3 25 "ProofBench$Names" "parts" "[I") (by decide +kernel)) (fun _ h9 => h9) rfl dX3_tell_75 ?_
  refine lv_iload hx hb dX3_tell_78 (lv_at hl 1 rfl) ?_
  refine lv_iconst (v := 3) hx hb dX3_tell_80 (by decide) ?_
  refine lv_imul hx hb dX3_tell_81 ?_
  refine lv_topi (fun z_7 e9 => ?_)
  obtain rfl : z_7 = 240 := by rw [e9]; decide
  refine lv_iload hx hb dX3_tell_82 (lv_at hl 0 rfl) ?_
  refine lv_iadd hx hb dX3_tell_84 ?_
  refine lv_topi (fun z_8 e9 => ?_)
  obtain rfl : z_8 = 240 := by rw [e9]; decide
  refine lv_aload hx hb dX3_tell_85 (lv_at hl 6 rfl) ?_
  refine lv_iload hx hb dX3_tell_87 (lv_at hl 0 rfl) ?_
  refine va_iald hx hb hK hP 4 5 rfl rfl (show vp_in (0) 3 from by unfold vp_in; decide) dX3_tell_89 ?_
  refine lv_topi (fun r_9 er_9 => ?_)
  refine va_iast hx hb hK hP hD hS 3 4 rfl rfl (show vp_in (240) 600 from by unfold vp_in; decide) dX3_tell_90 (fun H locs hP hD hS => ?_)
  obtain ⟨f_10, hP, hD⟩ : ∃ f9 : Nat → Int32, va_P (dC, dI) vwCl [(a2, .inl (cA2, 200, .inr (.inl (f_4)))), (a3, .inl (cA3, 200, .inl (f_5))), (a4, .inl (cA4, 200, .inl (f_6))), (a5, .inl (cA5, 600, .inl (f9))), (a6, .inl (cA6, 3, .inl (g6))), (h0, .inr (3, [.ref a1, .ref a2, .ref a3, .ref a4, .ref a5])), (a1, .inl (cA1, 5, .inl (g)))] H ∧ va_D A [(a2, .inl (cA2, 200, .inr (.inl (f_4)))), (a3, .inl (cA3, 200, .inl (f_5))), (a4, .inl (cA4, 200, .inl (f_6))), (a5, .inl (cA5, 600, .inl (f9))), (a6, .inl (cA6, 3, .inl (g6))), (h0, .inr (3, [.ref a1, .ref a2, .ref a3, .ref a4, .ref a5])), (a1, .inl (cA1, 5, .inl (g)))] := ⟨_, hP, hD⟩
  refine lv_iinc (v := 1) (lv' := [(8, .int 1), (7, .int 80), (0, .ref h0), (1, .int 2), (2, .long y), (4, .int 0), (5, .ref a6), (6, .int 1)]) hx hb dX3_tell_91 hl (k := 0) rfl (by decide) (by decide) rfl (fun ls hl => ?_)
  refine lv_goto (tgt := 53) hx hb dX3_tell_94 (by decide) ?_
  refine lv_iload hx hb dX3_tell_53 (lv_at hl 0 rfl) ?_
  refine lv_iload hx hb dX3_tell_55 (lv_at hl 7 rfl) ?_
  refine lv_icmp_ge (tgt := 97) hx hb dX3_tell_57 (by decide) (fun _ => ?_) (fun c9 => absurd c9 (by decide))
  refine lv_aload_n hx hb dX3_tell_97 rfl (lv_at hl 2 rfl) ?_
  refine va_get (D := (dC, dI)) (ci := 3) (v := .ref a1) (C := RX3) (T := TX3) (N := 5) hx hb hts (by decide +kernel) hown hK hP 5 rfl rfl 0 (by decide) (hts (.fieldLink RX3 9 "ProofBench$Names" "counts" "[I") (by decide +kernel)) (fun _ h9 => h9) rfl dX3_tell_98 ?_
  refine lv_iload_n hx hb dX3_tell_101 rfl (lv_at hl 3 rfl) ?_
  refine lv_dup2_11 hx hb dX3_tell_102 rfl rfl ?_
  refine va_iald hx hb hK hP 6 0 rfl rfl (show vp_in (2) 5 from by unfold vp_in; decide) dX3_tell_103 ?_
  refine lv_topi (fun z_11 e9 => ?_)
  obtain rfl : z_11 = 0 := by rw [e9]; exact hg
  refine lv_iconst (v := 1) hx hb dX3_tell_104 (by decide) ?_
  refine lv_iadd hx hb dX3_tell_105 ?_
  refine lv_topi (fun z_12 e9 => ?_)
  obtain rfl : z_12 = 1 := by rw [e9]; decide
  refine va_iast hx hb hK hP hD hS 6 0 rfl rfl (show vp_in (2) 5 from by unfold vp_in; decide) dX3_tell_106 (fun H locs hP hD hS => ?_)
  obtain ⟨g9, hP, hD, hg4⟩ : ∃ g9 : Nat → Int32, va_P (dC, dI) vwCl [(a2, .inl (cA2, 200, .inr (.inl (f_4)))), (a3, .inl (cA3, 200, .inl (f_5))), (a4, .inl (cA4, 200, .inl (f_6))), (a5, .inl (cA5, 600, .inl (f_10))), (a6, .inl (cA6, 3, .inl (g6))), (h0, .inr (3, [.ref a1, .ref a2, .ref a3, .ref a4, .ref a5])), (a1, .inl (cA1, 5, .inl (g9)))] H ∧ va_D A [(a2, .inl (cA2, 200, .inr (.inl (f_4)))), (a3, .inl (cA3, 200, .inl (f_5))), (a4, .inl (cA4, 200, .inl (f_6))), (a5, .inl (cA5, 600, .inl (f_10))), (a6, .inl (cA6, 3, .inl (g6))), (h0, .inr (3, [.ref a1, .ref a2, .ref a3, .ref a4, .ref a5])), (a1, .inl (cA1, 5, .inl (g9)))] ∧ g9 4 = 0 := ⟨_, hP, hD, (pk_un (by decide)).trans h4⟩
  refine lv_iconst (v := 0) hx hb dX3_tell_107 (by decide) ?_
  have hP9 := hP.sub (ws' := [(h0, .inr (3, [.ref a1, .ref a2, .ref a3, .ref a4, .ref a5])), (a1, .inl (cA1, 5, .inl (g9))), (a2, .inl (cA2, 200, .inr (.inl (f_4)))), (a3, .inl (cA3, 200, .inl (f_5))), (a4, .inl (cA4, 200, .inl (f_6))), (a5, .inl (cA5, 600, .inl (f_10))), (a6, .inl (cA6, 3, .inl (g6)))]) [5, 6, 0, 1, 2, 3, 4] rfl
  have hD9 := hD.sub (ws' := [(h0, .inr (3, [.ref a1, .ref a2, .ref a3, .ref a4, .ref a5])), (a1, .inl (cA1, 5, .inl (g9))), (a2, .inl (cA2, 200, .inr (.inl (f_4)))), (a3, .inl (cA3, 200, .inl (f_5))), (a4, .inl (cA4, 200, .inl (f_6))), (a5, .inl (cA5, 600, .inl (f_10))), (a6, .inl (cA6, 3, .inl (g6)))]) [5, 6, 0, 1, 2, 3, 4] (by decide) rfl
  exact W.iret (v := 0) hx hb hr (fun t ht hW => ⟨⟨0, (), rfl, trivial, g9, f_4, f_5, f_6, f_10, by rw [ht]; exact hP9, va_K.moved hW.alike hK, hD9, hg4⟩, hS.F ht⟩) hS.2.2 dX3_tell_108
set_option maxHeartbeats 1000000 in
set_option maxRecDepth 100000 in
theorem lp_keyOf {p : Program} {l : Launch} {e : Env} {s : State} {m : MethodId} {args : Array Value} {below : List Frame} {meth : Method} {c : Code} {Q : State → Prop} {dC : Nat → ClassId} {dI : Nat → Nat → Nat} {A : Nat → Prop} {a v n : Nat} {f : Nat → Int32} (hn : n < 2 ^ 31) (hx : p.tables.exec = Jvm.exec) (hb : c.code = cX3_keyOf) (hml : c.maxLocals = 4) (hown : s.vm.findClass RX3 = some m.cls) (hts : ∀ w ∈ wsX3_keyOf, w.before args s = true) (hA : ∀ q : Nat, s.heap.size ≤ q → A q) (hst : st_S a v n f A s s.heap) (hK : va_K (dC, dI) vwCl [] s) (hexit : ∀ (x : Int64) (k : Nat) (H : Heap) (locs : List Loc) (ls : Array Slot), va_S A s.heap H locs → lv_has ls 4 [(0, .ref a), (1, .long x), (3, .int (nI k))] → W p l e ({ frames := 4, cells := 0, slots := 0, locals := 85 } : Room) s m args below meth c H locs 0 0 Q (F0 m 34 ls [])) : ∀ (d k : Nat), n = k + d → ∀ (x : Int64) (H : Heap) (locs : List Loc), va_S A s.heap H locs → ∀ ls : Array Slot, lv_has ls 4 [(0, .ref a), (1, .long x), (3, .int (nI k))] → W p l e ({ frames := 4, cells := 0, slots := 0, locals := 85 } : Room) s m args below meth c H locs 0 0 Q (F0 m 4 ls []) := by
  intro d
  induction d with
  | zero =>
    intro k hk x H locs hS ls hl
    have hP : va_P (dC, dI) vwCl [] H := fun k q h => by simp at h
    have hD : va_D A [] := ⟨fun i j p q h => by simp at h, fun k q h => by simp at h⟩
    refine lv_iload_n hx hb dX3_keyOf_4 rfl (lv_at hl 2 rfl) ?_
    refine lv_aload_n hx hb dX3_keyOf_5 rfl (lv_at hl 0 rfl) ?_
    have hPc := hP.sub (ws' := []) [] rfl
    have hDc := hD.sub (ws' := []) [] (by decide) rfl
    have hKc := hK.sub (tys' := []) [] rfl
    have hFc := va_free (wc := []) hD hS hA [] rfl
    refine va_calli (va_runV (As := []) (rest := [.int (nI k)]) ⟨hx, hb, hml, hown, hts⟩ (c_length l dC dI H.size a v n f) (cwV 0 hts gX3_keyOf_J0_length_8abf5 rfl rfl rfl (by decide +kernel) ⟨Nat.le_of_ble_eq_true rfl, Nat.le_of_ble_eq_true rfl⟩) ⟨fun a U g mk q => by obtain ⟨q0, q1, qP, qK, qD, qE0⟩ := q; exact ⟨q0, q1, qP, va_K.moved (u := U) (U := U.calling g mk a) (Vm.Alike.refl U.vm) qK, qD, st_S.moved (u := U) (U := U.calling g mk a) (Vm.Alike.refl U.vm) qE0⟩, hst.recv hS, fun U hU hW => ⟨rfl, by rw [hU], by rw [hU]; exact hPc, va_K.moved hW.alike hKc, hDc.weaken (fun _ _ _ _ => trivial), by rw [hU]; exact st_S.moved hW.alike ((hst.kept hS.2.1).narrow hFc)⟩⟩ rfl rfl hl.1 rfl (lv_room (Nat.le_of_ble_eq_true rfl)) dX3_keyOf_6 ⟨(show 0 + 0 ≤ 0 by omega), (show 0 + 0 ≤ 0 by omega)⟩) hS (fun q _ h => hFc q h) hFc (fun r0 u t H1 locs ht hvm hw hB hz1 hk1 hS => ?_)
    obtain ⟨hP1, hK1, hD1⟩ := hB
    rw [ht] at hP1
    have hK1 := va_K.moved hvm.symm hK1
    obtain ⟨hP, hD⟩ := va_join (wr := []) (w1 := []) hP hD [] [] rfl rfl (by decide) (by decide) hk1 hFc hP1 hD1
    have hK := (hK.sub (tys' := []) [] rfl).app hK1
    generalize H1 = H at hP hS ⊢
    have hP : va_P (dC, dI) vwCl [] H := hP
    have hD : va_D A [] := hD
    have hK : va_K (dC, dI) vwCl [] s := hK
    refine W.widen (k := 0) (n := 0) (by omega) (by omega) ?_
    subst hw
    refine lv_icmp_ge (tgt := 34) hx hb dX3_keyOf_9 (by decide) (fun c9 => ?_) (fun c9 => absurd (nI_le (by omega) (by omega)) c9)
    exact hexit x k _ _ ls hS hl
  | succ d ih =>
    intro k hk x H locs hS ls hl
    have hP : va_P (dC, dI) vwCl [] H := fun k q h => by simp at h
    have hD : va_D A [] := ⟨fun i j p q h => by simp at h, fun k q h => by simp at h⟩
    refine lv_iload_n hx hb dX3_keyOf_4 rfl (lv_at hl 2 rfl) ?_
    refine lv_aload_n hx hb dX3_keyOf_5 rfl (lv_at hl 0 rfl) ?_
    have hPc := hP.sub (ws' := []) [] rfl
    have hDc := hD.sub (ws' := []) [] (by decide) rfl
    have hKc := hK.sub (tys' := []) [] rfl
    have hFc := va_free (wc := []) hD hS hA [] rfl
    refine va_calli (va_runV (As := []) (rest := [.int (nI k)]) ⟨hx, hb, hml, hown, hts⟩ (c_length l dC dI H.size a v n f) (cwV 0 hts gX3_keyOf_J0_length_8abf5 rfl rfl rfl (by decide +kernel) ⟨Nat.le_of_ble_eq_true rfl, Nat.le_of_ble_eq_true rfl⟩) ⟨fun a U g mk q => by obtain ⟨q0, q1, qP, qK, qD, qE0⟩ := q; exact ⟨q0, q1, qP, va_K.moved (u := U) (U := U.calling g mk a) (Vm.Alike.refl U.vm) qK, qD, st_S.moved (u := U) (U := U.calling g mk a) (Vm.Alike.refl U.vm) qE0⟩, hst.recv hS, fun U hU hW => ⟨rfl, by rw [hU], by rw [hU]; exact hPc, va_K.moved hW.alike hKc, hDc.weaken (fun _ _ _ _ => trivial), by rw [hU]; exact st_S.moved hW.alike ((hst.kept hS.2.1).narrow hFc)⟩⟩ rfl rfl hl.1 rfl (lv_room (Nat.le_of_ble_eq_true rfl)) dX3_keyOf_6 ⟨(show 0 + 0 ≤ 0 by omega), (show 0 + 0 ≤ 0 by omega)⟩) hS (fun q _ h => hFc q h) hFc (fun r0 u t H1 locs ht hvm hw hB hz1 hk1 hS => ?_)
    obtain ⟨hP1, hK1, hD1⟩ := hB
    rw [ht] at hP1
    have hK1 := va_K.moved hvm.symm hK1
    obtain ⟨hP, hD⟩ := va_join (wr := []) (w1 := []) hP hD [] [] rfl rfl (by decide) (by decide) hk1 hFc hP1 hD1
    have hK := (hK.sub (tys' := []) [] rfl).app hK1
    generalize H1 = H at hP hS ⊢
    have hP : va_P (dC, dI) vwCl [] H := hP
    have hD : va_D A [] := hD
    have hK : va_K (dC, dI) vwCl [] s := hK
    refine W.widen (k := 0) (n := 0) (by omega) (by omega) ?_
    subst hw
    refine lv_icmp_ge (tgt := 34) hx hb dX3_keyOf_9 (by decide) (fun c9 => absurd c9 (nI_ge (by omega) (by omega))) (fun c9 => ?_)
    refine lv_lload_n hx hb dX3_keyOf_12 rfl (lv_at hl 1 rfl) ?_
    refine lv_ldc2 hx hb hown (hts (.constantLong RX3 46 (37)) (by decide +kernel)) dX3_keyOf_13 ?_
    refine lv_lmul hx hb dX3_keyOf_16 ?_
    refine lv_topl (fun y_1 ey_1 => ?_)
    refine lv_aload_n hx hb dX3_keyOf_17 rfl (lv_at hl 0 rfl) ?_
    refine lv_iload_n hx hb dX3_keyOf_18 rfl (lv_at hl 2 rfl) ?_
    have hPc := hP.sub (ws' := []) [] rfl
    have hDc := hD.sub (ws' := []) [] (by decide) rfl
    have hKc := hK.sub (tys' := []) [] rfl
    have hFc := va_free (wc := []) hD hS hA [] rfl
    refine va_calli (va_runV (As := [.int (nI k)]) (rest := [.long y_1]) ⟨hx, hb, hml, hown, hts⟩ (c_charAt l dC dI H.size a v n f k (by omega) hn) (cwV 1 hts gX3_keyOf_J0_charAt_5068e rfl rfl rfl (by decide +kernel) ⟨Nat.le_of_ble_eq_true rfl, Nat.le_of_ble_eq_true rfl⟩) ⟨fun a U g mk q => by obtain ⟨q0, q1, qP, qK, qD, qE0⟩ := q; exact ⟨q0, q1, qP, va_K.moved (u := U) (U := U.calling g mk a) (Vm.Alike.refl U.vm) qK, qD, st_S.moved (u := U) (U := U.calling g mk a) (Vm.Alike.refl U.vm) qE0⟩, hst.recv hS, fun U hU hW => ⟨rfl, by rw [hU], by rw [hU]; exact hPc, va_K.moved hW.alike hKc, hDc.weaken (fun _ _ _ _ => trivial), by rw [hU]; exact st_S.moved hW.alike ((hst.kept hS.2.1).narrow hFc)⟩⟩ rfl rfl hl.1 rfl (lv_room (Nat.le_of_ble_eq_true rfl)) dX3_keyOf_19 ⟨(show 0 + 0 ≤ 0 by omega), (show 0 + 0 ≤ 0 by omega)⟩) hS (fun q _ h => hFc q h) hFc (fun r1 u t H1 locs ht hvm hw hB hz1 hk1 hS => ?_)
    obtain ⟨hP1, hK1, hD1⟩ := hB
    rw [ht] at hP1
    have hK1 := va_K.moved hvm.symm hK1
    obtain ⟨hP, hD⟩ := va_join (wr := []) (w1 := []) hP hD [] [] rfl rfl (by decide) (by decide) hk1 hFc hP1 hD1
    have hK := (hK.sub (tys' := []) [] rfl).app hK1
    generalize H1 = H at hP hS ⊢
    have hP : va_P (dC, dI) vwCl [] H := hP
    have hD : va_D A [] := hD
    have hK : va_K (dC, dI) vwCl [] s := hK
    refine W.widen (k := 0) (n := 0) (by omega) (by omega) ?_
    have hPc := hP.sub (ws' := []) [] rfl
    have hDc := hD.sub (ws' := []) [] (by decide) rfl
    have hKc := hK.sub (tys' := []) [] rfl
    have hFc := va_free (wc := []) hD hS hA [] rfl
    refine va_calli (va_runS (As := [.int r1]) (rest := [.long y_1]) ⟨hx, hb, hml, hown, hts⟩ (c_symbol l dC dI H.size r1) (va_cwS 1 hts gX3_keyOf_X3_symbol rfl rfl rfl (by decide +kernel) ⟨Nat.le_of_ble_eq_true rfl, Nat.le_of_ble_eq_true rfl⟩) ⟨fun a U g mk q => by obtain ⟨q0, q1, qP, qK, qD⟩ := q; exact ⟨q0, q1, qP, va_K.moved (u := U) (U := U.calling g mk a) (Vm.Alike.refl U.vm) qK, qD⟩, fun U hU hW => ⟨rfl, by rw [hU], by rw [hU]; exact hPc, va_K.moved hW.alike hKc, hDc.weaken (fun _ _ _ _ => trivial)⟩⟩ rfl rfl hl.1 rfl (lv_room (Nat.le_of_ble_eq_true rfl)) dX3_keyOf_22 ⟨(show 0 + 0 ≤ 0 by omega), (show 0 + 0 ≤ 0 by omega)⟩) hS (fun q _ h => hFc q h) hFc (fun r2 u t H1 locs ht hvm hw hB hz1 hk1 hS => ?_)
    obtain ⟨hP1, hK1, hD1⟩ := hB
    rw [ht] at hP1
    have hK1 := va_K.moved hvm.symm hK1
    obtain ⟨hP, hD⟩ := va_join (wr := []) (w1 := []) hP hD [] [] rfl rfl (by decide) (by decide) hk1 hFc hP1 hD1
    have hK := (hK.sub (tys' := []) [] rfl).app hK1
    generalize H1 = H at hP hS ⊢
    have hP : va_P (dC, dI) vwCl [] H := hP
    have hD : va_D A [] := hD
    have hK : va_K (dC, dI) vwCl [] s := hK
    refine W.widen (k := 0) (n := 0) (by omega) (by omega) ?_
    refine lv_i2l hx hb dX3_keyOf_25 rfl ?_
    refine lv_topl (fun y_2 ey_2 => ?_)
    refine lv_ladd hx hb dX3_keyOf_26 ?_
    refine lv_topl (fun y_3 ey_3 => ?_)
    refine lv_lstore_n (lv' := [(1, .long y_3), (0, .ref a), (3, .int (nI k))]) hx hb dX3_keyOf_27 rfl hl (by decide) rfl (fun ls hl => ?_)
    refine lv_iinc (v := nI (k + 1)) (lv' := [(3, .int (nI (k + 1))), (1, .long y_3), (0, .ref a)]) hx hb dX3_keyOf_28 hl (k := 2) rfl (by rw [← nI_1]; rfl) (by decide) rfl (fun ls hl => ?_)
    refine lv_goto (tgt := 4) hx hb dX3_keyOf_31 (by decide) ?_
    exact ih (k + 1) (by omega) y_3 _ _ hS ls (lv_sub hl [2, 1, 0] rfl)
set_option maxHeartbeats 1000000 in
set_option maxRecDepth 100000 in
/-- keyOf(text): some long -/
theorem c_keyOf (l : Launch) (dC : Nat → ClassId) (dI : Nat → Nat → Nat) (sz : Nat) (a v n : Nat) (f : Nat → Int32) (hn : n < 2 ^ 31) : Met l yX3_keyOf wsX3_keyOf ({ frames := 4, cells := 0, slots := 0, locals := 85 }) (va_Pc [.ref a] (fun U => U.heap.size = sz ∧ va_P (dC, dI) vwCl [] U.heap ∧ va_K (dC, dI) vwCl [] U ∧ va_D (fun _ => True) [] ∧ st_S a v n f (va_A [] sz) U U.heap)) (va_Ql (fun (r : Int64) (_ : Unit) => True) (fun _ t => va_P (dC, dI) vwCl [] t.heap ∧ va_K (dC, dI) vwCl [] t ∧ va_D (va_A [] sz) []) (va_A [] sz)) (0) (0) (va_A [] sz) := by
  refine Met.ofW (cc := cX3_keyOf) (maxL := 4) (ret := (some .long)) (by decide) rfl ?_
  intro p e s m args below meth c s₁ B hml hv
  obtain ⟨rfl, hsz, hP, hK, hD0, hst⟩ := hv
  have hx := B.exec
  have hb := B.bytes
  have hr := B.returns
  have hts := atoms_spec (ws := wsX3_keyOf) B.pre
  have hown : s.vm.findClass RX3 = some m.cls := findClass_of_methodNamed B.named
  have hlocks := B.notSynchronized
  subst hsz
  have hD := hD0.self (sz := s.heap.size)
  generalize hAe : va_A [] s.heap.size = A at hD hst ⊢
  have hA : ∀ q : Nat, s.heap.size ≤ q → A q := fun q h => by rw [← hAe]; exact Or.inr h
  have hS : va_S A s.heap s.heap [] := va_S.rf
  have hl := lv_entry ([.ref a]) (n := 4) (Nat.le_of_ble_eq_true rfl)
  rw [lg_entry_eq]
  generalize (lg_sl ([.ref a]) ++ List.replicate (4 - (lg_sl ([.ref a])).length) Slot.unset).toArray = ls at hl ⊢
  have hl : lv_has ls 4 [(0, .ref a)] := hl
  refine lv_lconst (v := 0) hx hb dX3_keyOf_0 (by decide) ?_
  refine lv_lstore_n (lv' := [(1, .long 0), (0, .ref a)]) hx hb dX3_keyOf_1 rfl hl (by decide) rfl (fun ls hl => ?_)
  refine lv_iconst (v := 0) hx hb dX3_keyOf_2 (by decide) ?_
  refine lv_istore_n (lv' := [(3, .int 0), (1, .long 0), (0, .ref a)]) hx hb dX3_keyOf_3 rfl hl (by decide) rfl (fun ls hl => ?_)
  refine lp_keyOf hn hx hb hml hown hts hA hst hK (fun x k H locs ls hS hl => ?_) n 0 (by omega) 0 _ _ hS ls (lv_sub hl [2, 1, 0] rfl)
  refine lv_lload_n hx hb dX3_keyOf_34 rfl (lv_at hl 1 rfl) ?_
  exact W.lret (v := x) hx hb hr (fun t ht hW => ⟨⟨x, (), rfl, trivial, fun k q h => by simp at h, va_K.moved hW.alike hK, ⟨fun i j p q h => by simp at h, fun k q h => by simp at h⟩⟩, hS.F ht⟩) hS.2.2 dX3_keyOf_35
