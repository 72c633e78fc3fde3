abbrev cX4_at : ByteArray := prog_6_method_2_code
def yX4_at : MethodName := ⟨RX4, "at", "(I)I"⟩
abbrev cX9_take : ByteArray := prog_11_method_2_code
def yX9_take : MethodName := ⟨RX9, "take", "(J)V"⟩
abbrev cX9_scan : ByteArray := prog_11_method_3_code
def yX9_scan : MethodName := ⟨RX9, "scan", "()V"⟩
abbrev cX9_add : ByteArray := prog_11_method_9_code
def yX9_add : MethodName := ⟨RX9, "add", "(IIJ)V"⟩
abbrev cX9_kindAt : ByteArray := prog_11_method_14_code
def yX9_kindAt : MethodName := ⟨RX9, "kindAt", "(I)I"⟩
abbrev cX9_whole : ByteArray := prog_11_method_18_code
def yX9_whole : MethodName := ⟨RX9, "whole", "()Z"⟩
abbrev cX11_feed : ByteArray := prog_1_method_2_code
def yX11_feed : MethodName := ⟨RX11, "feed", "(JJJJJ)I"⟩
abbrev cX11_end : ByteArray := prog_1_method_3_code
def yX11_end : MethodName := ⟨RX11, "end", "(I)I"⟩
abbrev cX11_run : ByteArray := prog_1_method_4_code
def yX11_run : MethodName := ⟨RX11, "run", "()I"⟩
abbrev cX11_wrong : ByteArray := prog_1_method_5_code
def yX11_wrong : MethodName := ⟨RX11, "wrong", "()I"⟩
abbrev cX11_outputs : ByteArray := prog_1_method_6_code
def yX11_outputs : MethodName := ⟨RX11, "outputs", "()I"⟩
abbrev cX11_out : ByteArray := prog_1_method_7_code
def yX11_out : MethodName := ⟨RX11, "out", "(I)I"⟩
abbrev cX11_steps : ByteArray := prog_1_method_8_code
def yX11_steps : MethodName := ⟨RX11, "steps", "()I"⟩
abbrev cX11_hypotheses : ByteArray := prog_1_method_9_code
def yX11_hypotheses : MethodName := ⟨RX11, "hypotheses", "(I)I"⟩
abbrev cX11_facts : ByteArray := prog_1_method_10_code
def yX11_facts : MethodName := ⟨RX11, "facts", "()I"⟩
abbrev cX11_leans : ByteArray := prog_1_method_11_code
def yX11_leans : MethodName := ⟨RX11, "leans", "(II)I"⟩
abbrev cX11_inductive : ByteArray := prog_1_method_12_code
def yX11_inductive : MethodName := ⟨RX11, "inductive", "(I)I"⟩
abbrev cX11_refusals : ByteArray := prog_1_method_13_code
def yX11_refusals : MethodName := ⟨RX11, "refusals", "(I)I"⟩
theorem dX4_at_0 : decode cX4_at 0 = .ok (.iload_n 1, 1) := by decide +kernel
theorem dX4_at_1 : decode cX4_at 1 = .ok (.ifCond .lt 27, 3) := by decide +kernel
theorem dX4_at_4 : decode cX4_at 4 = .ok (.iload_n 1, 1) := by decide +kernel
theorem dX4_at_5 : decode cX4_at 5 = .ok (.aload_n 0, 1) := by decide +kernel
theorem dX4_at_6 : decode cX4_at 6 = .ok (.getfield 27, 3) := by decide +kernel
theorem dX4_at_9 : decode cX4_at 9 = .ok (.if_icmp .ge 19, 3) := by decide +kernel
theorem dX4_at_12 : decode cX4_at 12 = .ok (.iload_n 1, 1) := by decide +kernel
theorem dX4_at_13 : decode cX4_at 13 = .ok (.sipush 20000, 3) := by decide +kernel
theorem dX4_at_16 : decode cX4_at 16 = .ok (.if_icmp .ge 12, 3) := by decide +kernel
theorem dX4_at_19 : decode cX4_at 19 = .ok (.aload_n 0, 1) := by decide +kernel
theorem dX4_at_20 : decode cX4_at 20 = .ok (.getfield 11, 3) := by decide +kernel
theorem dX4_at_23 : decode cX4_at 23 = .ok (.iload_n 1, 1) := by decide +kernel
theorem dX4_at_24 : decode cX4_at 24 = .ok (.iaload, 1) := by decide +kernel
theorem dX4_at_25 : decode cX4_at 25 = .ok (.goto 4, 3) := by decide +kernel
theorem dX4_at_28 : decode cX4_at 28 = .ok (.iconst 0, 1) := by decide +kernel
theorem dX4_at_29 : decode cX4_at 29 = .ok (.ireturn, 1) := by decide +kernel
theorem dX9_take_0 : decode cX9_take 0 = .ok (.bipush 56, 2) := by decide +kernel
theorem dX9_take_2 : decode cX9_take 2 = .ok (.istore_n 3, 1) := by decide +kernel
theorem dX9_take_3 : decode cX9_take 3 = .ok (.iload_n 3, 1) := by decide +kernel
theorem dX9_take_4 : decode cX9_take 4 = .ok (.ifCond .lt 43, 3) := by decide +kernel
theorem dX9_take_7 : decode cX9_take 7 = .ok (.aload_n 0, 1) := by decide +kernel
theorem dX9_take_8 : decode cX9_take 8 = .ok (.getfield 44, 3) := by decide +kernel
theorem dX9_take_11 : decode cX9_take 11 = .ok (.sipush 4000, 3) := by decide +kernel
theorem dX9_take_14 : decode cX9_take 14 = .ok (.if_icmp .ge 27, 3) := by decide +kernel
theorem dX9_take_17 : decode cX9_take 17 = .ok (.aload_n 0, 1) := by decide +kernel
theorem dX9_take_18 : decode cX9_take 18 = .ok (.getfield 9, 3) := by decide +kernel
theorem dX9_take_21 : decode cX9_take 21 = .ok (.aload_n 0, 1) := by decide +kernel
theorem dX9_take_22 : decode cX9_take 22 = .ok (.getfield 44, 3) := by decide +kernel
theorem dX9_take_25 : decode cX9_take 25 = .ok (.lload_n 1, 1) := by decide +kernel
theorem dX9_take_26 : decode cX9_take 26 = .ok (.iload_n 3, 1) := by decide +kernel
theorem dX9_take_27 : decode cX9_take 27 = .ok (.lshr, 1) := by decide +kernel
theorem dX9_take_28 : decode cX9_take 28 = .ok (.l2i, 1) := by decide +kernel
theorem dX9_take_29 : decode cX9_take 29 = .ok (.i2b, 1) := by decide +kernel
theorem dX9_take_30 : decode cX9_take 30 = .ok (.bastore, 1) := by decide +kernel
theorem dX9_take_31 : decode cX9_take 31 = .ok (.aload_n 0, 1) := by decide +kernel
theorem dX9_take_32 : decode cX9_take 32 = .ok (.dup, 1) := by decide +kernel
theorem dX9_take_33 : decode cX9_take 33 = .ok (.getfield 44, 3) := by decide +kernel
theorem dX9_take_36 : decode cX9_take 36 = .ok (.iconst 1, 1) := by decide +kernel
theorem dX9_take_37 : decode cX9_take 37 = .ok (.iadd, 1) := by decide +kernel
theorem dX9_take_38 : decode cX9_take 38 = .ok (.putfield 44, 3) := by decide +kernel
theorem dX9_take_41 : decode cX9_take 41 = .ok (.iinc 3 (-8), 3) := by decide +kernel
theorem dX9_take_44 : decode cX9_take 44 = .ok (.goto (-41), 3) := by decide +kernel
theorem dX9_take_47 : decode cX9_take 47 = .ok (.return_, 1) := by decide +kernel
theorem dX9_scan_0 : decode cX9_scan 0 = .ok (.aload_n 0, 1) := by decide +kernel
theorem dX9_scan_1 : decode cX9_scan 1 = .ok (.iconst 0, 1) := by decide +kernel
theorem dX9_scan_2 : decode cX9_scan 2 = .ok (.putfield 47, 3) := by decide +kernel
theorem dX9_scan_5 : decode cX9_scan 5 = .ok (.aload_n 0, 1) := by decide +kernel
theorem dX9_scan_6 : decode cX9_scan 6 = .ok (.iconst 0, 1) := by decide +kernel
theorem dX9_scan_7 : decode cX9_scan 7 = .ok (.putfield 50, 3) := by decide +kernel
theorem dX9_scan_10 : decode cX9_scan 10 = .ok (.iconst 0, 1) := by decide +kernel
theorem dX9_scan_11 : decode cX9_scan 11 = .ok (.istore_n 1, 1) := by decide +kernel
theorem dX9_scan_12 : decode cX9_scan 12 = .ok (.iload_n 1, 1) := by decide +kernel
theorem dX9_scan_13 : decode cX9_scan 13 = .ok (.aload_n 0, 1) := by decide +kernel
theorem dX9_scan_14 : decode cX9_scan 14 = .ok (.getfield 44, 3) := by decide +kernel
theorem dX9_scan_17 : decode cX9_scan 17 = .ok (.if_icmp .ge 43, 3) := by decide +kernel
theorem dX9_scan_20 : decode cX9_scan 20 = .ok (.aload_n 0, 1) := by decide +kernel
theorem dX9_scan_21 : decode cX9_scan 21 = .ok (.iload_n 1, 1) := by decide +kernel
theorem dX9_scan_22 : decode cX9_scan 22 = .ok (.invokevirtual 53, 3) := by decide +kernel
theorem dX9_scan_25 : decode cX9_scan 25 = .ok (.istore_n 2, 1) := by decide +kernel
theorem dX9_scan_26 : decode cX9_scan 26 = .ok (.iload_n 1, 1) := by decide +kernel
theorem dX9_scan_27 : decode cX9_scan 27 = .ok (.iconst 1, 1) := by decide +kernel
theorem dX9_scan_28 : decode cX9_scan 28 = .ok (.iadd, 1) := by decide +kernel
theorem dX9_scan_29 : decode cX9_scan 29 = .ok (.istore_n 3, 1) := by decide +kernel
theorem dX9_scan_30 : decode cX9_scan 30 = .ok (.iload_n 2, 1) := by decide +kernel
theorem dX9_scan_31 : decode cX9_scan 31 = .ok (.bipush 32, 2) := by decide +kernel
theorem dX9_scan_33 : decode cX9_scan 33 = .ok (.if_icmp .eq 16, 3) := by decide +kernel
theorem dX9_scan_36 : decode cX9_scan 36 = .ok (.iload_n 2, 1) := by decide +kernel
theorem dX9_scan_37 : decode cX9_scan 37 = .ok (.bipush 10, 2) := by decide +kernel
theorem dX9_scan_39 : decode cX9_scan 39 = .ok (.if_icmp .eq 10, 3) := by decide +kernel
theorem dX9_scan_42 : decode cX9_scan 42 = .ok (.aload_n 0, 1) := by decide +kernel
theorem dX9_scan_43 : decode cX9_scan 43 = .ok (.iload_n 2, 1) := by decide +kernel
theorem dX9_scan_44 : decode cX9_scan 44 = .ok (.iload_n 1, 1) := by decide +kernel
theorem dX9_scan_45 : decode cX9_scan 45 = .ok (.invokevirtual 57, 3) := by decide +kernel
theorem dX9_scan_48 : decode cX9_scan 48 = .ok (.istore_n 3, 1) := by decide +kernel
theorem dX9_scan_49 : decode cX9_scan 49 = .ok (.iload_n 3, 1) := by decide +kernel
theorem dX9_scan_50 : decode cX9_scan 50 = .ok (.iload_n 1, 1) := by decide +kernel
theorem dX9_scan_51 : decode cX9_scan 51 = .ok (.iconst 1, 1) := by decide +kernel
theorem dX9_scan_52 : decode cX9_scan 52 = .ok (.iadd, 1) := by decide +kernel
theorem dX9_scan_53 : decode cX9_scan 53 = .ok (.invokestatic 61, 3) := by decide +kernel
theorem dX9_scan_56 : decode cX9_scan 56 = .ok (.istore_n 1, 1) := by decide +kernel
theorem dX9_scan_57 : decode cX9_scan 57 = .ok (.goto (-45), 3) := by decide +kernel
theorem dX9_scan_60 : decode cX9_scan 60 = .ok (.aload_n 0, 1) := by decide +kernel
theorem dX9_scan_61 : decode cX9_scan 61 = .ok (.iconst 0, 1) := by decide +kernel
theorem dX9_scan_62 : decode cX9_scan 62 = .ok (.aload_n 0, 1) := by decide +kernel
theorem dX9_scan_63 : decode cX9_scan 63 = .ok (.getfield 44, 3) := by decide +kernel
theorem dX9_scan_66 : decode cX9_scan 66 = .ok (.lconst 0, 1) := by decide +kernel
theorem dX9_scan_67 : decode cX9_scan 67 = .ok (.invokevirtual 66, 3) := by decide +kernel
theorem dX9_scan_70 : decode cX9_scan 70 = .ok (.return_, 1) := by decide +kernel
theorem dX9_add_0 : decode cX9_add 0 = .ok (.aload_n 0, 1) := by decide +kernel
theorem dX9_add_1 : decode cX9_add 1 = .ok (.getfield 47, 3) := by decide +kernel
theorem dX9_add_4 : decode cX9_add 4 = .ok (.aload_n 0, 1) := by decide +kernel
theorem dX9_add_5 : decode cX9_add 5 = .ok (.getfield 15, 3) := by decide +kernel
theorem dX9_add_8 : decode cX9_add 8 = .ok (.arraylength, 1) := by decide +kernel
theorem dX9_add_9 : decode cX9_add 9 = .ok (.if_icmp .ge 43, 3) := by decide +kernel
theorem dX9_add_12 : decode cX9_add 12 = .ok (.aload_n 0, 1) := by decide +kernel
theorem dX9_add_13 : decode cX9_add 13 = .ok (.getfield 15, 3) := by decide +kernel
theorem dX9_add_16 : decode cX9_add 16 = .ok (.aload_n 0, 1) := by decide +kernel
theorem dX9_add_17 : decode cX9_add 17 = .ok (.getfield 47, 3) := by decide +kernel
theorem dX9_add_20 : decode cX9_add 20 = .ok (.iload_n 1, 1) := by decide +kernel
theorem dX9_add_21 : decode cX9_add 21 = .ok (.iastore, 1) := by decide +kernel
theorem dX9_add_22 : decode cX9_add 22 = .ok (.aload_n 0, 1) := by decide +kernel
theorem dX9_add_23 : decode cX9_add 23 = .ok (.getfield 19, 3) := by decide +kernel
theorem dX9_add_26 : decode cX9_add 26 = .ok (.aload_n 0, 1) := by decide +kernel
theorem dX9_add_27 : decode cX9_add 27 = .ok (.getfield 47, 3) := by decide +kernel
theorem dX9_add_30 : decode cX9_add 30 = .ok (.iload_n 2, 1) := by decide +kernel
theorem dX9_add_31 : decode cX9_add 31 = .ok (.iastore, 1) := by decide +kernel
theorem dX9_add_32 : decode cX9_add 32 = .ok (.aload_n 0, 1) := by decide +kernel
theorem dX9_add_33 : decode cX9_add 33 = .ok (.getfield 22, 3) := by decide +kernel
theorem dX9_add_36 : decode cX9_add 36 = .ok (.aload_n 0, 1) := by decide +kernel
theorem dX9_add_37 : decode cX9_add 37 = .ok (.getfield 47, 3) := by decide +kernel
theorem dX9_add_40 : decode cX9_add 40 = .ok (.lload_n 3, 1) := by decide +kernel
theorem dX9_add_41 : decode cX9_add 41 = .ok (.lastore, 1) := by decide +kernel
theorem dX9_add_42 : decode cX9_add 42 = .ok (.aload_n 0, 1) := by decide +kernel
theorem dX9_add_43 : decode cX9_add 43 = .ok (.dup, 1) := by decide +kernel
theorem dX9_add_44 : decode cX9_add 44 = .ok (.getfield 47, 3) := by decide +kernel
theorem dX9_add_47 : decode cX9_add 47 = .ok (.iconst 1, 1) := by decide +kernel
theorem dX9_add_48 : decode cX9_add 48 = .ok (.iadd, 1) := by decide +kernel
theorem dX9_add_49 : decode cX9_add 49 = .ok (.putfield 47, 3) := by decide +kernel
theorem dX9_add_52 : decode cX9_add 52 = .ok (.return_, 1) := by decide +kernel
theorem dX9_kindAt_0 : decode cX9_kindAt 0 = .ok (.iload_n 1, 1) := by decide +kernel
theorem dX9_kindAt_1 : decode cX9_kindAt 1 = .ok (.ifCond .lt 20, 3) := by decide +kernel
theorem dX9_kindAt_4 : decode cX9_kindAt 4 = .ok (.iload_n 1, 1) := by decide +kernel
theorem dX9_kindAt_5 : decode cX9_kindAt 5 = .ok (.aload_n 0, 1) := by decide +kernel
theorem dX9_kindAt_6 : decode cX9_kindAt 6 = .ok (.getfield 47, 3) := by decide +kernel
theorem dX9_kindAt_9 : decode cX9_kindAt 9 = .ok (.if_icmp .ge 12, 3) := by decide +kernel
theorem dX9_kindAt_12 : decode cX9_kindAt 12 = .ok (.aload_n 0, 1) := by decide +kernel
theorem dX9_kindAt_13 : decode cX9_kindAt 13 = .ok (.getfield 15, 3) := by decide +kernel
theorem dX9_kindAt_16 : decode cX9_kindAt 16 = .ok (.iload_n 1, 1) := by decide +kernel
theorem dX9_kindAt_17 : decode cX9_kindAt 17 = .ok (.iaload, 1) := by decide +kernel
theorem dX9_kindAt_18 : decode cX9_kindAt 18 = .ok (.goto 4, 3) := by decide +kernel
theorem dX9_kindAt_21 : decode cX9_kindAt 21 = .ok (.iconst 0, 1) := by decide +kernel
theorem dX9_kindAt_22 : decode cX9_kindAt 22 = .ok (.ireturn, 1) := by decide +kernel
theorem dX9_whole_0 : decode cX9_whole 0 = .ok (.aload_n 0, 1) := by decide +kernel
theorem dX9_whole_1 : decode cX9_whole 1 = .ok (.iconst (-1), 1) := by decide +kernel
theorem dX9_whole_2 : decode cX9_whole 2 = .ok (.putfield 112, 3) := by decide +kernel
theorem dX9_whole_5 : decode cX9_whole 5 = .ok (.aload_n 0, 1) := by decide +kernel
theorem dX9_whole_6 : decode cX9_whole 6 = .ok (.aload_n 0, 1) := by decide +kernel
theorem dX9_whole_7 : decode cX9_whole 7 = .ok (.getfield 50, 3) := by decide +kernel
theorem dX9_whole_10 : decode cX9_whole 10 = .ok (.invokevirtual 115, 3) := by decide +kernel
theorem dX9_whole_13 : decode cX9_whole 13 = .ok (.ifCond .ne 5, 3) := by decide +kernel
theorem dX9_whole_16 : decode cX9_whole 16 = .ok (.iconst 0, 1) := by decide +kernel
theorem dX9_whole_17 : decode cX9_whole 17 = .ok (.ireturn, 1) := by decide +kernel
theorem dX9_whole_18 : decode cX9_whole 18 = .ok (.aload_n 0, 1) := by decide +kernel
theorem dX9_whole_19 : decode cX9_whole 19 = .ok (.aload_n 0, 1) := by decide +kernel
theorem dX9_whole_20 : decode cX9_whole 20 = .ok (.getfield 50, 3) := by decide +kernel
theorem dX9_whole_23 : decode cX9_whole 23 = .ok (.invokevirtual 115, 3) := by decide +kernel
theorem dX9_whole_26 : decode cX9_whole 26 = .ok (.iconst 1, 1) := by decide +kernel
theorem dX9_whole_27 : decode cX9_whole 27 = .ok (.if_icmp .ne 20, 3) := by decide +kernel
theorem dX9_whole_30 : decode cX9_whole 30 = .ok (.aload_n 0, 1) := by decide +kernel
theorem dX9_whole_31 : decode cX9_whole 31 = .ok (.aload_n 0, 1) := by decide +kernel
theorem dX9_whole_32 : decode cX9_whole 32 = .ok (.getfield 50, 3) := by decide +kernel
theorem dX9_whole_35 : decode cX9_whole 35 = .ok (.invokevirtual 118, 3) := by decide +kernel
theorem dX9_whole_38 : decode cX9_whole 38 = .ok (.lconst 0, 1) := by decide +kernel
theorem dX9_whole_39 : decode cX9_whole 39 = .ok (.lcmp, 1) := by decide +kernel
theorem dX9_whole_40 : decode cX9_whole 40 = .ok (.ifCond .lt 7, 3) := by decide +kernel
theorem dX9_whole_43 : decode cX9_whole 43 = .ok (.iconst 1, 1) := by decide +kernel
theorem dX9_whole_44 : decode cX9_whole 44 = .ok (.goto 4, 3) := by decide +kernel
theorem dX9_whole_47 : decode cX9_whole 47 = .ok (.iconst 0, 1) := by decide +kernel
theorem dX9_whole_48 : decode cX9_whole 48 = .ok (.istore_n 1, 1) := by decide +kernel
theorem dX9_whole_49 : decode cX9_whole 49 = .ok (.aload_n 0, 1) := by decide +kernel
theorem dX9_whole_50 : decode cX9_whole 50 = .ok (.iload_n 1, 1) := by decide +kernel
theorem dX9_whole_51 : decode cX9_whole 51 = .ok (.ifCond .eq 15, 3) := by decide +kernel
theorem dX9_whole_54 : decode cX9_whole 54 = .ok (.aload_n 0, 1) := by decide +kernel
theorem dX9_whole_55 : decode cX9_whole 55 = .ok (.aload_n 0, 1) := by decide +kernel
theorem dX9_whole_56 : decode cX9_whole 56 = .ok (.getfield 50, 3) := by decide +kernel
theorem dX9_whole_59 : decode cX9_whole 59 = .ok (.invokevirtual 118, 3) := by decide +kernel
theorem dX9_whole_62 : decode cX9_whole 62 = .ok (.l2i, 1) := by decide +kernel
theorem dX9_whole_63 : decode cX9_whole 63 = .ok (.goto 4, 3) := by decide +kernel
theorem dX9_whole_66 : decode cX9_whole 66 = .ok (.iconst (-1), 1) := by decide +kernel
theorem dX9_whole_67 : decode cX9_whole 67 = .ok (.putfield 109, 3) := by decide +kernel
theorem dX9_whole_70 : decode cX9_whole 70 = .ok (.iload_n 1, 1) := by decide +kernel
theorem dX9_whole_71 : decode cX9_whole 71 = .ok (.ifCond .eq 13, 3) := by decide +kernel
theorem dX9_whole_74 : decode cX9_whole 74 = .ok (.aload_n 0, 1) := by decide +kernel
theorem dX9_whole_75 : decode cX9_whole 75 = .ok (.dup, 1) := by decide +kernel
theorem dX9_whole_76 : decode cX9_whole 76 = .ok (.getfield 50, 3) := by decide +kernel
theorem dX9_whole_79 : decode cX9_whole 79 = .ok (.iconst 1, 1) := by decide +kernel
theorem dX9_whole_80 : decode cX9_whole 80 = .ok (.iadd, 1) := by decide +kernel
theorem dX9_whole_81 : decode cX9_whole 81 = .ok (.putfield 50, 3) := by decide +kernel
theorem dX9_whole_84 : decode cX9_whole 84 = .ok (.iconst 0, 1) := by decide +kernel
theorem dX9_whole_85 : decode cX9_whole 85 = .ok (.istore_n 2, 1) := by decide +kernel
theorem dX9_whole_86 : decode cX9_whole 86 = .ok (.iload_n 1, 1) := by decide +kernel
theorem dX9_whole_87 : decode cX9_whole 87 = .ok (.ifCond .eq 44, 3) := by decide +kernel
theorem dX9_whole_90 : decode cX9_whole 90 = .ok (.iload_n 2, 1) := by decide +kernel
theorem dX9_whole_91 : decode cX9_whole 91 = .ok (.iconst 4, 1) := by decide +kernel
theorem dX9_whole_92 : decode cX9_whole 92 = .ok (.if_icmp .ge 39, 3) := by decide +kernel
theorem dX9_whole_95 : decode cX9_whole 95 = .ok (.aload_n 0, 1) := by decide +kernel
theorem dX9_whole_96 : decode cX9_whole 96 = .ok (.iload_n 2, 1) := by decide +kernel
theorem dX9_whole_97 : decode cX9_whole 97 = .ok (.invokevirtual 122, 3) := by decide +kernel
theorem dX9_whole_100 : decode cX9_whole 100 = .ok (.bipush 59, 2) := by decide +kernel
theorem dX9_whole_102 : decode cX9_whole 102 = .ok (.if_icmp .eq 29, 3) := by decide +kernel
theorem dX9_whole_105 : decode cX9_whole 105 = .ok (.aload_n 0, 1) := by decide +kernel
theorem dX9_whole_106 : decode cX9_whole 106 = .ok (.getfield 29, 3) := by decide +kernel
theorem dX9_whole_109 : decode cX9_whole 109 = .ok (.iload_n 2, 1) := by decide +kernel
theorem dX9_whole_110 : decode cX9_whole 110 = .ok (.aload_n 0, 1) := by decide +kernel
theorem dX9_whole_111 : decode cX9_whole 111 = .ok (.getfield 50, 3) := by decide +kernel
theorem dX9_whole_114 : decode cX9_whole 114 = .ok (.iastore, 1) := by decide +kernel
theorem dX9_whole_115 : decode cX9_whole 115 = .ok (.aload_n 0, 1) := by decide +kernel
theorem dX9_whole_116 : decode cX9_whole 116 = .ok (.aload_n 0, 1) := by decide +kernel
theorem dX9_whole_117 : decode cX9_whole 117 = .ok (.iload_n 2, 1) := by decide +kernel
theorem dX9_whole_118 : decode cX9_whole 118 = .ok (.invokevirtual 122, 3) := by decide +kernel
theorem dX9_whole_121 : decode cX9_whole 121 = .ok (.invokevirtual 125, 3) := by decide +kernel
theorem dX9_whole_124 : decode cX9_whole 124 = .ok (.istore_n 1, 1) := by decide +kernel
theorem dX9_whole_125 : decode cX9_whole 125 = .ok (.iinc 2 1, 3) := by decide +kernel
theorem dX9_whole_128 : decode cX9_whole 128 = .ok (.goto (-42), 3) := by decide +kernel
theorem dX9_whole_131 : decode cX9_whole 131 = .ok (.iload_n 1, 1) := by decide +kernel
theorem dX9_whole_132 : decode cX9_whole 132 = .ok (.ifCond .eq 14, 3) := by decide +kernel
theorem dX9_whole_135 : decode cX9_whole 135 = .ok (.aload_n 0, 1) := by decide +kernel
theorem dX9_whole_136 : decode cX9_whole 136 = .ok (.bipush 59, 2) := by decide +kernel
theorem dX9_whole_138 : decode cX9_whole 138 = .ok (.invokevirtual 129, 3) := by decide +kernel
theorem dX9_whole_141 : decode cX9_whole 141 = .ok (.ifCond .eq 5, 3) := by decide +kernel
theorem dX9_whole_144 : decode cX9_whole 144 = .ok (.iconst 1, 1) := by decide +kernel
theorem dX9_whole_145 : decode cX9_whole 145 = .ok (.ireturn, 1) := by decide +kernel
theorem dX9_whole_146 : decode cX9_whole 146 = .ok (.aload_n 0, 1) := by decide +kernel
theorem dX9_whole_147 : decode cX9_whole 147 = .ok (.aload_n 0, 1) := by decide +kernel
theorem dX9_whole_148 : decode cX9_whole 148 = .ok (.aload_n 0, 1) := by decide +kernel
theorem dX9_whole_149 : decode cX9_whole 149 = .ok (.getfield 50, 3) := by decide +kernel
theorem dX9_whole_152 : decode cX9_whole 152 = .ok (.invokevirtual 132, 3) := by decide +kernel
theorem dX9_whole_155 : decode cX9_whole 155 = .ok (.putfield 112, 3) := by decide +kernel
theorem dX9_whole_158 : decode cX9_whole 158 = .ok (.iconst 0, 1) := by decide +kernel
theorem dX9_whole_159 : decode cX9_whole 159 = .ok (.ireturn, 1) := by decide +kernel
theorem dX11_feed_0 : decode cX11_feed 0 = .ok (.aload_n 0, 1) := by decide +kernel
theorem dX11_feed_1 : decode cX11_feed 1 = .ok (.getfield 10, 3) := by decide +kernel
theorem dX11_feed_4 : decode cX11_feed 4 = .ok (.getfield 74, 3) := by decide +kernel
theorem dX11_feed_7 : decode cX11_feed 7 = .ok (.bipush 40, 2) := by decide +kernel
theorem dX11_feed_9 : decode cX11_feed 9 = .ok (.iadd, 1) := by decide +kernel
theorem dX11_feed_10 : decode cX11_feed 10 = .ok (.sipush 4000, 3) := by decide +kernel
theorem dX11_feed_13 : decode cX11_feed 13 = .ok (.if_icmp .le 5, 3) := by decide +kernel
theorem dX11_feed_16 : decode cX11_feed 16 = .ok (.iconst (-1), 1) := by decide +kernel
theorem dX11_feed_17 : decode cX11_feed 17 = .ok (.ireturn, 1) := by decide +kernel
theorem dX11_feed_18 : decode cX11_feed 18 = .ok (.aload_n 0, 1) := by decide +kernel
theorem dX11_feed_19 : decode cX11_feed 19 = .ok (.getfield 10, 3) := by decide +kernel
theorem dX11_feed_22 : decode cX11_feed 22 = .ok (.lload_n 1, 1) := by decide +kernel
theorem dX11_feed_23 : decode cX11_feed 23 = .ok (.invokevirtual 77, 3) := by decide +kernel
theorem dX11_feed_26 : decode cX11_feed 26 = .ok (.aload_n 0, 1) := by decide +kernel
theorem dX11_feed_27 : decode cX11_feed 27 = .ok (.getfield 10, 3) := by decide +kernel
theorem dX11_feed_30 : decode cX11_feed 30 = .ok (.lload_n 3, 1) := by decide +kernel
theorem dX11_feed_31 : decode cX11_feed 31 = .ok (.invokevirtual 77, 3) := by decide +kernel
theorem dX11_feed_34 : decode cX11_feed 34 = .ok (.aload_n 0, 1) := by decide +kernel
theorem dX11_feed_35 : decode cX11_feed 35 = .ok (.getfield 10, 3) := by decide +kernel
theorem dX11_feed_38 : decode cX11_feed 38 = .ok (.lload 5, 2) := by decide +kernel
theorem dX11_feed_40 : decode cX11_feed 40 = .ok (.invokevirtual 77, 3) := by decide +kernel
theorem dX11_feed_43 : decode cX11_feed 43 = .ok (.aload_n 0, 1) := by decide +kernel
theorem dX11_feed_44 : decode cX11_feed 44 = .ok (.getfield 10, 3) := by decide +kernel
theorem dX11_feed_47 : decode cX11_feed 47 = .ok (.lload 7, 2) := by decide +kernel
theorem dX11_feed_49 : decode cX11_feed 49 = .ok (.invokevirtual 77, 3) := by decide +kernel
theorem dX11_feed_52 : decode cX11_feed 52 = .ok (.aload_n 0, 1) := by decide +kernel
theorem dX11_feed_53 : decode cX11_feed 53 = .ok (.getfield 10, 3) := by decide +kernel
theorem dX11_feed_56 : decode cX11_feed 56 = .ok (.lload 9, 2) := by decide +kernel
theorem dX11_feed_58 : decode cX11_feed 58 = .ok (.invokevirtual 77, 3) := by decide +kernel
theorem dX11_feed_61 : decode cX11_feed 61 = .ok (.aload_n 0, 1) := by decide +kernel
theorem dX11_feed_62 : decode cX11_feed 62 = .ok (.getfield 10, 3) := by decide +kernel
theorem dX11_feed_65 : decode cX11_feed 65 = .ok (.getfield 74, 3) := by decide +kernel
theorem dX11_feed_68 : decode cX11_feed 68 = .ok (.ireturn, 1) := by decide +kernel
theorem dX11_end_0 : decode cX11_end 0 = .ok (.iload_n 1, 1) := by decide +kernel
theorem dX11_end_1 : decode cX11_end 1 = .ok (.ifCond .lt 14, 3) := by decide +kernel
theorem dX11_end_4 : decode cX11_end 4 = .ok (.iload_n 1, 1) := by decide +kernel
theorem dX11_end_5 : decode cX11_end 5 = .ok (.aload_n 0, 1) := by decide +kernel
theorem dX11_end_6 : decode cX11_end 6 = .ok (.getfield 10, 3) := by decide +kernel
theorem dX11_end_9 : decode cX11_end 9 = .ok (.getfield 74, 3) := by decide +kernel
theorem dX11_end_12 : decode cX11_end 12 = .ok (.if_icmp .le 5, 3) := by decide +kernel
theorem dX11_end_15 : decode cX11_end 15 = .ok (.iconst (-1), 1) := by decide +kernel
theorem dX11_end_16 : decode cX11_end 16 = .ok (.ireturn, 1) := by decide +kernel
theorem dX11_end_17 : decode cX11_end 17 = .ok (.aload_n 0, 1) := by decide +kernel
theorem dX11_end_18 : decode cX11_end 18 = .ok (.getfield 10, 3) := by decide +kernel
theorem dX11_end_21 : decode cX11_end 21 = .ok (.iload_n 1, 1) := by decide +kernel
theorem dX11_end_22 : decode cX11_end 22 = .ok (.putfield 74, 3) := by decide +kernel
theorem dX11_end_25 : decode cX11_end 25 = .ok (.iload_n 1, 1) := by decide +kernel
theorem dX11_end_26 : decode cX11_end 26 = .ok (.ireturn, 1) := by decide +kernel
theorem dX11_run_0 : decode cX11_run 0 = .ok (.aload_n 0, 1) := by decide +kernel
theorem dX11_run_1 : decode cX11_run 1 = .ok (.getfield 62, 3) := by decide +kernel
theorem dX11_run_4 : decode cX11_run 4 = .ok (.iconst 0, 1) := by decide +kernel
theorem dX11_run_5 : decode cX11_run 5 = .ok (.putfield 81, 3) := by decide +kernel
theorem dX11_run_8 : decode cX11_run 8 = .ok (.aload_n 0, 1) := by decide +kernel
theorem dX11_run_9 : decode cX11_run 9 = .ok (.getfield 10, 3) := by decide +kernel
theorem dX11_run_12 : decode cX11_run 12 = .ok (.invokevirtual 84, 3) := by decide +kernel
theorem dX11_run_15 : decode cX11_run 15 = .ok (.iconst 0, 1) := by decide +kernel
theorem dX11_run_16 : decode cX11_run 16 = .ok (.istore_n 1, 1) := by decide +kernel
theorem dX11_run_17 : decode cX11_run 17 = .ok (.iload_n 1, 1) := by decide +kernel
theorem dX11_run_18 : decode cX11_run 18 = .ok (.sipush 4000, 3) := by decide +kernel
theorem dX11_run_21 : decode cX11_run 21 = .ok (.if_icmp .ge 139, 3) := by decide +kernel
theorem dX11_run_24 : decode cX11_run 24 = .ok (.aload_n 0, 1) := by decide +kernel
theorem dX11_run_25 : decode cX11_run 25 = .ok (.getfield 10, 3) := by decide +kernel
theorem dX11_run_28 : decode cX11_run 28 = .ok (.invokevirtual 87, 3) := by decide +kernel
theorem dX11_run_31 : decode cX11_run 31 = .ok (.ifCond .eq 129, 3) := by decide +kernel
theorem dX11_run_34 : decode cX11_run 34 = .ok (.iinc 1 1, 3) := by decide +kernel
theorem dX11_run_37 : decode cX11_run 37 = .ok (.aload_n 0, 1) := by decide +kernel
theorem dX11_run_38 : decode cX11_run 38 = .ok (.getfield 62, 3) := by decide +kernel
theorem dX11_run_41 : decode cX11_run 41 = .ok (.getfield 81, 3) := by decide +kernel
theorem dX11_run_44 : decode cX11_run 44 = .ok (.istore_n 2, 1) := by decide +kernel
theorem dX11_run_45 : decode cX11_run 45 = .ok (.aload_n 0, 1) := by decide +kernel
theorem dX11_run_46 : decode cX11_run 46 = .ok (.getfield 46, 3) := by decide +kernel
theorem dX11_run_49 : decode cX11_run 49 = .ok (.invokevirtual 91, 3) := by decide +kernel
theorem dX11_run_52 : decode cX11_run 52 = .ok (.istore_n 3, 1) := by decide +kernel
theorem dX11_run_53 : decode cX11_run 53 = .ok (.iload_n 3, 1) := by decide +kernel
theorem dX11_run_54 : decode cX11_run 54 = .ok (.ifCond .ne 15, 3) := by decide +kernel
theorem dX11_run_57 : decode cX11_run 57 = .ok (.aload_n 0, 1) := by decide +kernel
theorem dX11_run_58 : decode cX11_run 58 = .ok (.getfield 55, 3) := by decide +kernel
theorem dX11_run_61 : decode cX11_run 61 = .ok (.aload_n 0, 1) := by decide +kernel
theorem dX11_run_62 : decode cX11_run 62 = .ok (.getfield 10, 3) := by decide +kernel
theorem dX11_run_65 : decode cX11_run 65 = .ok (.invokevirtual 95, 3) := by decide +kernel
theorem dX11_run_68 : decode cX11_run 68 = .ok (.istore_n 3, 1) := by decide +kernel
theorem dX11_run_69 : decode cX11_run 69 = .ok (.iload_n 3, 1) := by decide +kernel
theorem dX11_run_70 : decode cX11_run 70 = .ok (.ifCond .ne 44, 3) := by decide +kernel
theorem dX11_run_73 : decode cX11_run 73 = .ok (.aload_n 0, 1) := by decide +kernel
theorem dX11_run_74 : decode cX11_run 74 = .ok (.getfield 10, 3) := by decide +kernel
theorem dX11_run_77 : decode cX11_run 77 = .ok (.getfield 99, 3) := by decide +kernel
theorem dX11_run_80 : decode cX11_run 80 = .ok (.bipush 19, 2) := by decide +kernel
theorem dX11_run_82 : decode cX11_run 82 = .ok (.if_icmp .lt 20, 3) := by decide +kernel
theorem dX11_run_85 : decode cX11_run 85 = .ok (.aload_n 0, 1) := by decide +kernel
theorem dX11_run_86 : decode cX11_run 86 = .ok (.getfield 55, 3) := by decide +kernel
theorem dX11_run_89 : decode cX11_run 89 = .ok (.aload_n 0, 1) := by decide +kernel
theorem dX11_run_90 : decode cX11_run 90 = .ok (.getfield 10, 3) := by decide +kernel
theorem dX11_run_93 : decode cX11_run 93 = .ok (.getfield 99, 3) := by decide +kernel
theorem dX11_run_96 : decode cX11_run 96 = .ok (.invokevirtual 102, 3) := by decide +kernel
theorem dX11_run_99 : decode cX11_run 99 = .ok (.goto 14, 3) := by decide +kernel
theorem dX11_run_102 : decode cX11_run 102 = .ok (.aload_n 0, 1) := by decide +kernel
theorem dX11_run_103 : decode cX11_run 103 = .ok (.aload_n 0, 1) := by decide +kernel
theorem dX11_run_104 : decode cX11_run 104 = .ok (.getfield 10, 3) := by decide +kernel
theorem dX11_run_107 : decode cX11_run 107 = .ok (.getfield 99, 3) := by decide +kernel
theorem dX11_run_110 : decode cX11_run 110 = .ok (.invokevirtual 106, 3) := by decide +kernel
theorem dX11_run_113 : decode cX11_run 113 = .ok (.istore_n 3, 1) := by decide +kernel
theorem dX11_run_114 : decode cX11_run 114 = .ok (.iload_n 3, 1) := by decide +kernel
theorem dX11_run_115 : decode cX11_run 115 = .ok (.ifCond .ne 14, 3) := by decide +kernel
theorem dX11_run_118 : decode cX11_run 118 = .ok (.aload_n 0, 1) := by decide +kernel
theorem dX11_run_119 : decode cX11_run 119 = .ok (.getfield 62, 3) := by decide +kernel
theorem dX11_run_122 : decode cX11_run 122 = .ok (.getfield 81, 3) := by decide +kernel
theorem dX11_run_125 : decode cX11_run 125 = .ok (.iload_n 2, 1) := by decide +kernel
theorem dX11_run_126 : decode cX11_run 126 = .ok (.if_icmp .ne 11, 3) := by decide +kernel
theorem dX11_run_129 : decode cX11_run 129 = .ok (.aload_n 0, 1) := by decide +kernel
theorem dX11_run_130 : decode cX11_run 130 = .ok (.getfield 62, 3) := by decide +kernel
theorem dX11_run_133 : decode cX11_run 133 = .ok (.iload_n 3, 1) := by decide +kernel
theorem dX11_run_134 : decode cX11_run 134 = .ok (.invokevirtual 109, 3) := by decide +kernel
theorem dX11_run_137 : decode cX11_run 137 = .ok (.iload_n 3, 1) := by decide +kernel
theorem dX11_run_138 : decode cX11_run 138 = .ok (.ifCond .lt 19, 3) := by decide +kernel
theorem dX11_run_141 : decode cX11_run 141 = .ok (.iload_n 3, 1) := by decide +kernel
theorem dX11_run_142 : decode cX11_run 142 = .ok (.bipush 16, 2) := by decide +kernel
theorem dX11_run_144 : decode cX11_run 144 = .ok (.if_icmp .ge 13, 3) := by decide +kernel
theorem dX11_run_147 : decode cX11_run 147 = .ok (.aload_n 0, 1) := by decide +kernel
theorem dX11_run_148 : decode cX11_run 148 = .ok (.getfield 66, 3) := by decide +kernel
theorem dX11_run_151 : decode cX11_run 151 = .ok (.iload_n 3, 1) := by decide +kernel
theorem dX11_run_152 : decode cX11_run 152 = .ok (.dup2, 1) := by decide +kernel
theorem dX11_run_153 : decode cX11_run 153 = .ok (.iaload, 1) := by decide +kernel
theorem dX11_run_154 : decode cX11_run 154 = .ok (.iconst 1, 1) := by decide +kernel
theorem dX11_run_155 : decode cX11_run 155 = .ok (.iadd, 1) := by decide +kernel
theorem dX11_run_156 : decode cX11_run 156 = .ok (.iastore, 1) := by decide +kernel
theorem dX11_run_157 : decode cX11_run 157 = .ok (.goto (-140), 3) := by decide +kernel
theorem dX11_run_160 : decode cX11_run 160 = .ok (.aload_n 0, 1) := by decide +kernel
theorem dX11_run_161 : decode cX11_run 161 = .ok (.aload_n 0, 1) := by decide +kernel
theorem dX11_run_162 : decode cX11_run 162 = .ok (.getfield 10, 3) := by decide +kernel
theorem dX11_run_165 : decode cX11_run 165 = .ok (.getfield 113, 3) := by decide +kernel
theorem dX11_run_168 : decode cX11_run 168 = .ok (.putfield 70, 3) := by decide +kernel
theorem dX11_run_171 : decode cX11_run 171 = .ok (.aload_n 0, 1) := by decide +kernel
theorem dX11_run_172 : decode cX11_run 172 = .ok (.getfield 10, 3) := by decide +kernel
theorem dX11_run_175 : decode cX11_run 175 = .ok (.iconst 0, 1) := by decide +kernel
theorem dX11_run_176 : decode cX11_run 176 = .ok (.putfield 74, 3) := by decide +kernel
theorem dX11_run_179 : decode cX11_run 179 = .ok (.iload_n 1, 1) := by decide +kernel
theorem dX11_run_180 : decode cX11_run 180 = .ok (.ireturn, 1) := by decide +kernel
theorem dX11_wrong_0 : decode cX11_wrong 0 = .ok (.aload_n 0, 1) := by decide +kernel
theorem dX11_wrong_1 : decode cX11_wrong 1 = .ok (.getfield 70, 3) := by decide +kernel
theorem dX11_wrong_4 : decode cX11_wrong 4 = .ok (.ireturn, 1) := by decide +kernel
theorem dX11_outputs_0 : decode cX11_outputs 0 = .ok (.aload_n 0, 1) := by decide +kernel
theorem dX11_outputs_1 : decode cX11_outputs 1 = .ok (.getfield 62, 3) := by decide +kernel
theorem dX11_outputs_4 : decode cX11_outputs 4 = .ok (.getfield 81, 3) := by decide +kernel
theorem dX11_outputs_7 : decode cX11_outputs 7 = .ok (.ireturn, 1) := by decide +kernel
theorem dX11_out_0 : decode cX11_out 0 = .ok (.aload_n 0, 1) := by decide +kernel
theorem dX11_out_1 : decode cX11_out 1 = .ok (.getfield 62, 3) := by decide +kernel
theorem dX11_out_4 : decode cX11_out 4 = .ok (.iload_n 1, 1) := by decide +kernel
theorem dX11_out_5 : decode cX11_out 5 = .ok (.invokevirtual 114, 3) := by decide +kernel
theorem dX11_out_8 : decode cX11_out 8 = .ok (.ireturn, 1) := by decide +kernel
theorem dX11_steps_0 : decode cX11_steps 0 = .ok (.aload_n 0, 1) := by decide +kernel
theorem dX11_steps_1 : decode cX11_steps 1 = .ok (.getfield 55, 3) := by decide +kernel
theorem dX11_steps_4 : decode cX11_steps 4 = .ok (.getfield 117, 3) := by decide +kernel
theorem dX11_steps_7 : decode cX11_steps 7 = .ok (.ireturn, 1) := by decide +kernel
theorem dX11_hypotheses_0 : decode cX11_hypotheses 0 = .ok (.iload_n 1, 1) := by decide +kernel
theorem dX11_hypotheses_1 : decode cX11_hypotheses 1 = .ok (.ifCond .lt 14, 3) := by decide +kernel
theorem dX11_hypotheses_4 : decode cX11_hypotheses 4 = .ok (.iload_n 1, 1) := by decide +kernel
theorem dX11_hypotheses_5 : decode cX11_hypotheses 5 = .ok (.aload_n 0, 1) := by decide +kernel
theorem dX11_hypotheses_6 : decode cX11_hypotheses 6 = .ok (.getfield 55, 3) := by decide +kernel
theorem dX11_hypotheses_9 : decode cX11_hypotheses 9 = .ok (.getfield 117, 3) := by decide +kernel
theorem dX11_hypotheses_12 : decode cX11_hypotheses 12 = .ok (.if_icmp .lt 7, 3) := by decide +kernel
theorem dX11_hypotheses_15 : decode cX11_hypotheses 15 = .ok (.iconst (-1), 1) := by decide +kernel
theorem dX11_hypotheses_16 : decode cX11_hypotheses 16 = .ok (.goto 15, 3) := by decide +kernel
theorem dX11_hypotheses_19 : decode cX11_hypotheses 19 = .ok (.aload_n 0, 1) := by decide +kernel
theorem dX11_hypotheses_20 : decode cX11_hypotheses 20 = .ok (.getfield 55, 3) := by decide +kernel
theorem dX11_hypotheses_23 : decode cX11_hypotheses 23 = .ok (.iload_n 1, 1) := by decide +kernel
theorem dX11_hypotheses_24 : decode cX11_hypotheses 24 = .ok (.invokevirtual 118, 3) := by decide +kernel
theorem dX11_hypotheses_27 : decode cX11_hypotheses 27 = .ok (.getfield 122, 3) := by decide +kernel
theorem dX11_hypotheses_30 : decode cX11_hypotheses 30 = .ok (.arraylength, 1) := by decide +kernel
theorem dX11_hypotheses_31 : decode cX11_hypotheses 31 = .ok (.ireturn, 1) := by decide +kernel
theorem dX11_facts_0 : decode cX11_facts 0 = .ok (.aload_n 0, 1) := by decide +kernel
theorem dX11_facts_1 : decode cX11_facts 1 = .ok (.getfield 19, 3) := by decide +kernel
theorem dX11_facts_4 : decode cX11_facts 4 = .ok (.getfield 128, 3) := by decide +kernel
theorem dX11_facts_7 : decode cX11_facts 7 = .ok (.iconst 4, 1) := by decide +kernel
theorem dX11_facts_8 : decode cX11_facts 8 = .ok (.iaload, 1) := by decide +kernel
theorem dX11_facts_9 : decode cX11_facts 9 = .ok (.ireturn, 1) := by decide +kernel
theorem dX11_leans_0 : decode cX11_leans 0 = .ok (.iload_n 1, 1) := by decide +kernel
theorem dX11_leans_1 : decode cX11_leans 1 = .ok (.ifCond .lt 33, 3) := by decide +kernel
theorem dX11_leans_4 : decode cX11_leans 4 = .ok (.iload_n 1, 1) := by decide +kernel
theorem dX11_leans_5 : decode cX11_leans 5 = .ok (.aload_n 0, 1) := by decide +kernel
theorem dX11_leans_6 : decode cX11_leans 6 = .ok (.getfield 19, 3) := by decide +kernel
theorem dX11_leans_9 : decode cX11_leans 9 = .ok (.getfield 128, 3) := by decide +kernel
theorem dX11_leans_12 : decode cX11_leans 12 = .ok (.iconst 4, 1) := by decide +kernel
theorem dX11_leans_13 : decode cX11_leans 13 = .ok (.iaload, 1) := by decide +kernel
theorem dX11_leans_14 : decode cX11_leans 14 = .ok (.if_icmp .ge 20, 3) := by decide +kernel
theorem dX11_leans_17 : decode cX11_leans 17 = .ok (.iload_n 2, 1) := by decide +kernel
theorem dX11_leans_18 : decode cX11_leans 18 = .ok (.ifCond .lt 16, 3) := by decide +kernel
theorem dX11_leans_21 : decode cX11_leans 21 = .ok (.iload_n 2, 1) := by decide +kernel
theorem dX11_leans_22 : decode cX11_leans 22 = .ok (.aload_n 0, 1) := by decide +kernel
theorem dX11_leans_23 : decode cX11_leans 23 = .ok (.getfield 19, 3) := by decide +kernel
theorem dX11_leans_26 : decode cX11_leans 26 = .ok (.getfield 128, 3) := by decide +kernel
theorem dX11_leans_29 : decode cX11_leans 29 = .ok (.iconst 4, 1) := by decide +kernel
theorem dX11_leans_30 : decode cX11_leans 30 = .ok (.iaload, 1) := by decide +kernel
theorem dX11_leans_31 : decode cX11_leans 31 = .ok (.if_icmp .lt 5, 3) := by decide +kernel
theorem dX11_leans_34 : decode cX11_leans 34 = .ok (.iconst (-1), 1) := by decide +kernel
theorem dX11_leans_35 : decode cX11_leans 35 = .ok (.ireturn, 1) := by decide +kernel
theorem dX11_leans_36 : decode cX11_leans 36 = .ok (.aload_n 0, 1) := by decide +kernel
theorem dX11_leans_37 : decode cX11_leans 37 = .ok (.getfield 55, 3) := by decide +kernel
theorem dX11_leans_40 : decode cX11_leans 40 = .ok (.iload_n 1, 1) := by decide +kernel
theorem dX11_leans_41 : decode cX11_leans 41 = .ok (.invokevirtual 131, 3) := by decide +kernel
theorem dX11_leans_44 : decode cX11_leans 44 = .ok (.getfield 134, 3) := by decide +kernel
theorem dX11_leans_47 : decode cX11_leans 47 = .ok (.iload_n 2, 1) := by decide +kernel
theorem dX11_leans_48 : decode cX11_leans 48 = .ok (.lshr, 1) := by decide +kernel
theorem dX11_leans_49 : decode cX11_leans 49 = .ok (.lconst 1, 1) := by decide +kernel
theorem dX11_leans_50 : decode cX11_leans 50 = .ok (.land, 1) := by decide +kernel
theorem dX11_leans_51 : decode cX11_leans 51 = .ok (.l2i, 1) := by decide +kernel
theorem dX11_leans_52 : decode cX11_leans 52 = .ok (.ireturn, 1) := by decide +kernel
theorem dX11_inductive_0 : decode cX11_inductive 0 = .ok (.iload_n 1, 1) := by decide +kernel
theorem dX11_inductive_1 : decode cX11_inductive 1 = .ok (.ifCond .lt 16, 3) := by decide +kernel
theorem dX11_inductive_4 : decode cX11_inductive 4 = .ok (.iload_n 1, 1) := by decide +kernel
theorem dX11_inductive_5 : decode cX11_inductive 5 = .ok (.aload_n 0, 1) := by decide +kernel
theorem dX11_inductive_6 : decode cX11_inductive 6 = .ok (.getfield 19, 3) := by decide +kernel
theorem dX11_inductive_9 : decode cX11_inductive 9 = .ok (.getfield 128, 3) := by decide +kernel
theorem dX11_inductive_12 : decode cX11_inductive 12 = .ok (.iconst 4, 1) := by decide +kernel
theorem dX11_inductive_13 : decode cX11_inductive 13 = .ok (.iaload, 1) := by decide +kernel
theorem dX11_inductive_14 : decode cX11_inductive 14 = .ok (.if_icmp .lt 5, 3) := by decide +kernel
theorem dX11_inductive_17 : decode cX11_inductive 17 = .ok (.iconst (-1), 1) := by decide +kernel
theorem dX11_inductive_18 : decode cX11_inductive 18 = .ok (.ireturn, 1) := by decide +kernel
theorem dX11_inductive_19 : decode cX11_inductive 19 = .ok (.aload_n 0, 1) := by decide +kernel
theorem dX11_inductive_20 : decode cX11_inductive 20 = .ok (.getfield 55, 3) := by decide +kernel
theorem dX11_inductive_23 : decode cX11_inductive 23 = .ok (.iload_n 1, 1) := by decide +kernel
theorem dX11_inductive_24 : decode cX11_inductive 24 = .ok (.invokevirtual 131, 3) := by decide +kernel
theorem dX11_inductive_27 : decode cX11_inductive 27 = .ok (.getfield 138, 3) := by decide +kernel
theorem dX11_inductive_30 : decode cX11_inductive 30 = .ok (.ifCond .eq 7, 3) := by decide +kernel
theorem dX11_inductive_33 : decode cX11_inductive 33 = .ok (.iconst 1, 1) := by decide +kernel
theorem dX11_inductive_34 : decode cX11_inductive 34 = .ok (.goto 4, 3) := by decide +kernel
theorem dX11_inductive_37 : decode cX11_inductive 37 = .ok (.iconst 0, 1) := by decide +kernel
theorem dX11_inductive_38 : decode cX11_inductive 38 = .ok (.ireturn, 1) := by decide +kernel
theorem dX11_refusals_0 : decode cX11_refusals 0 = .ok (.iload_n 1, 1) := by decide +kernel
theorem dX11_refusals_1 : decode cX11_refusals 1 = .ok (.ifCond .lt 9, 3) := by decide +kernel
theorem dX11_refusals_4 : decode cX11_refusals 4 = .ok (.iload_n 1, 1) := by decide +kernel
theorem dX11_refusals_5 : decode cX11_refusals 5 = .ok (.bipush 16, 2) := by decide +kernel
theorem dX11_refusals_7 : decode cX11_refusals 7 = .ok (.if_icmp .lt 7, 3) := by decide +kernel
theorem dX11_refusals_10 : decode cX11_refusals 10 = .ok (.iconst 0, 1) := by decide +kernel
theorem dX11_refusals_11 : decode cX11_refusals 11 = .ok (.goto 9, 3) := by decide +kernel
theorem dX11_refusals_14 : decode cX11_refusals 14 = .ok (.aload_n 0, 1) := by decide +kernel
theorem dX11_refusals_15 : decode cX11_refusals 15 = .ok (.getfield 66, 3) := by decide +kernel
theorem dX11_refusals_18 : decode cX11_refusals 18 = .ok (.iload_n 1, 1) := by decide +kernel
theorem dX11_refusals_19 : decode cX11_refusals 19 = .ok (.iaload, 1) := by decide +kernel
theorem dX11_refusals_20 : decode cX11_refusals 20 = .ok (.ireturn, 1) := by decide +kernel
def wc_X9_kindAt : List Cond := .code yX9_kindAt cX9_kindAt 2 (some .int) :: ([Cond.fieldLink RX9 47 "ProofBench$Tape" "count" "I", Cond.fieldLink RX9 15 "ProofBench$Tape" "kinds" "[I"] ++ wsX90)
set_option maxHeartbeats 1000000 in
set_option maxRecDepth 100000 in
/-- kindAt(0): the end -/
theorem c_kindAt (l : Launch) (dC : Nat → ClassId) (dI : Nat → Nat → Nat) (sz : Nat) (h0 a1 a2 a3 a4 a5 a6 : Nat) (cA2 : ClassId) (g2 : Nat → Int32) (hg : g2 0 = 0) : Met l yX9_kindAt wc_X9_kindAt ({ frames := 0, cells := 0, slots := 0, locals := 0 }) (va_Pc [.ref h0, .int 0] (fun U => U.heap.size = sz ∧ va_P (dC, dI) vwCl [(h0, .inr (9, [.ref a1, .ref a2, .ref a3, .ref a4, .ref a5, .ref a6, .int 0, .int 1, .int 0, .int 0, .int (-1)])), (a2, .inl (cA2, 4002, .inl (g2)))] U.heap ∧ va_K (dC, dI) vwCl [(cA2, .int)] U ∧ va_D (fun _ => True) [(h0, .inr (9, [.ref a1, .ref a2, .ref a3, .ref a4, .ref a5, .ref a6, .int 0, .int 1, .int 0, .int 0, .int (-1)])), (a2, .inl (cA2, 4002, .inl (g2)))])) (va_Qi (fun (r : Int32) (_ : Unit) => r = 0) (fun _ t => va_P (dC, dI) vwCl [(h0, .inr (9, [.ref a1, .ref a2, .ref a3, .ref a4, .ref a5, .ref a6, .int 0, .int 1, .int 0, .int 0, .int (-1)])), (a2, .inl (cA2, 4002, .inl (g2)))] t.heap ∧ va_K (dC, dI) vwCl [(cA2, .int)] t ∧ va_D (va_A [(h0, .inr (9, [.ref a1, .ref a2, .ref a3, .ref a4, .ref a5, .ref a6, .int 0, .int 1, .int 0, .int 0, .int (-1)])), (a2, .inl (cA2, 4002, .inl (g2)))] sz) [(h0, .inr (9, [.ref a1, .ref a2, .ref a3, .ref a4, .ref a5, .ref a6, .int 0, .int 1, .int 0, .int 0, .int (-1)])), (a2, .inl (cA2, 4002, .inl (g2)))]) (va_A [(h0, .inr (9, [.ref a1, .ref a2, .ref a3, .ref a4, .ref a5, .ref a6, .int 0, .int 1, .int 0, .int 0, .int (-1)])), (a2, .inl (cA2, 4002, .inl (g2)))] sz)) (0) (0) (va_A [(h0, .inr (9, [.ref a1, .ref a2, .ref a3, .ref a4, .ref a5, .ref a6, .int 0, .int 1, .int 0, .int 0, .int (-1)])), (a2, .inl (cA2, 4002, .inl (g2)))] sz) := by
  refine Met.ofW (cc := cX9_kindAt) (maxL := 2) (ret := (some .int)) (by decide) rfl ?_
  intro p e s m args below meth c s₁ B hml hv
  obtain ⟨rfl, hsz, hP, hK, hD0⟩ := hv
  have hx := B.exec
  have hb := B.bytes
  have hr := B.returns
  have hts := atoms_spec (ws := wc_X9_kindAt) B.pre
  have hown : s.vm.findClass RX9 = some m.cls := findClass_of_methodNamed B.named
  have hlocks := B.notSynchronized
  subst hsz
  have hD := hD0.self (sz := s.heap.size)
  generalize hAe : va_A [(h0, .inr (9, [.ref a1, .ref a2, .ref a3, .ref a4, .ref a5, .ref a6, .int 0, .int 1, .int 0, .int 0, .int (-1)])), (a2, .inl (cA2, 4002, .inl (g2)))] s.heap.size = A at hD ⊢
  have hA : ∀ q : Nat, s.heap.size ≤ q → A q := fun q h => by rw [← hAe]; exact Or.inr h
  have hS : va_S A s.heap s.heap [] := va_S.rf
  have hl := lv_entry ([.ref h0, .int 0]) (n := 2) (Nat.le_of_ble_eq_true rfl)
  rw [lg_entry_eq]
  generalize (lg_sl ([.ref h0, .int 0]) ++ List.replicate (2 - (lg_sl ([.ref h0, .int 0])).length) Slot.unset).toArray = ls at hl ⊢
  have hl : lv_has ls 2 [(0, .ref h0), (1, .int 0)] := hl
  refine lv_iload_n hx hb dX9_kindAt_0 rfl (lv_at hl 1 rfl) ?_
  refine lv_if_lt (tgt := 21) hx hb dX9_kindAt_1 (by decide) (fun c9 => absurd c9 (by decide)) (fun _ => ?_)
  refine lv_iload_n hx hb dX9_kindAt_4 rfl (lv_at hl 1 rfl) ?_
  refine lv_aload_n hx hb dX9_kindAt_5 rfl (lv_at hl 0 rfl) ?_
  refine va_get (D := (dC, dI)) (ci := 9) (v := .int 1) (C := RX9) (T := TX9) (N := 11) hx hb hts (by decide +kernel) hown hK hP 0 rfl rfl 7 (by decide) (hts (.fieldLink RX9 47 "ProofBench$Tape" "count" "I") (by decide +kernel)) (fun _ h9 => h9) rfl dX9_kindAt_6 ?_
  refine lv_icmp_ge (tgt := 21) hx hb dX9_kindAt_9 (by decide) (fun c9 => absurd c9 (by decide)) (fun _ => ?_)
  refine lv_aload_n hx hb dX9_kindAt_12 rfl (lv_at hl 0 rfl) ?_
  refine va_get (D := (dC, dI)) (ci := 9) (v := .ref a2) (C := RX9) (T := TX9) (N := 11) hx hb hts (by decide +kernel) hown hK hP 0 rfl rfl 1 (by decide) (hts (.fieldLink RX9 15 "ProofBench$Tape" "kinds" "[I") (by decide +kernel)) (fun _ h9 => h9) rfl dX9_kindAt_13 ?_
  refine lv_iload_n hx hb dX9_kindAt_16 rfl (lv_at hl 1 rfl) ?_
  refine va_iald hx hb hK hP 1 0 rfl rfl (show vp_in (0) 4002 from by unfold vp_in; decide) dX9_kindAt_17 ?_
  refine lv_topi (fun z_1 e9 => ?_)
  obtain rfl : z_1 = 0 := by rw [e9]; exact hg
  refine lv_goto (tgt := 22) hx hb dX9_kindAt_18 (by decide) ?_
  have hP9 := hP.sub (ws' := [(h0, .inr (9, [.ref a1, .ref a2, .ref a3, .ref a4, .ref a5, .ref a6, .int 0, .int 1, .int 0, .int 0, .int (-1)])), (a2, .inl (cA2, 4002, .inl (g2)))]) [0, 1] rfl
  have hD9 := hD.sub (ws' := [(h0, .inr (9, [.ref a1, .ref a2, .ref a3, .ref a4, .ref a5, .ref a6, .int 0, .int 1, .int 0, .int 0, .int (-1)])), (a2, .inl (cA2, 4002, .inl (g2)))]) [0, 1] (by decide) rfl
  have hK9 := hK.sub (tys' := [(cA2, .int)]) [0] rfl
  refine W.widen (k := 0) (n := 0) (by omega) (by omega) ?_
  exact W.iret (v := 0) hx hb hr (fun t ht hW => ⟨⟨0, (), rfl, rfl, by rw [ht]; exact hP9, va_K.moved hW.alike hK9, hD9⟩, hS.F ht⟩) hS.2.2 dX9_kindAt_22
def wc_X9_whole : List Cond := .code yX9_whole cX9_whole 3 (some .boolean) :: ([Cond.fieldLink RX9 112 "ProofBench$Tape" "wrongAt" "I", Cond.fieldLink RX9 50 "ProofBench$Tape" "next" "I"] ++ wsX90 ++ wsV RX9 115 RX9 yX9_kindAt wc_X9_kindAt)
set_option maxRecDepth 20000 in
theorem gc_X9_whole__X9_kindAt : GoodIn wc_X9_whole (wsV RX9 115 RX9 yX9_kindAt wc_X9_kindAt) := goodIn_of _ (by decide +kernel)
set_option maxHeartbeats 1000000 in
set_option maxRecDepth 100000 in
/-- whole(): nothing is left -/
theorem c_whole (l : Launch) (dC : Nat → ClassId) (dI : Nat → Nat → Nat) (sz : Nat) (h0 a1 a2 a3 a4 a5 a6 : Nat) (cA2 : ClassId) (g2 : Nat → Int32) (hg : g2 0 = 0) : Met l yX9_whole wc_X9_whole ({ frames := 1, cells := 0, slots := 0, locals := 21 }) (va_Pc [.ref h0] (fun U => U.heap.size = sz ∧ va_P (dC, dI) vwCl [(h0, .inr (9, [.ref a1, .ref a2, .ref a3, .ref a4, .ref a5, .ref a6, .int 0, .int 1, .int 0, .int 0, .int 0])), (a2, .inl (cA2, 4002, .inl (g2)))] U.heap ∧ va_K (dC, dI) vwCl [(cA2, .int)] U ∧ va_D (fun _ => True) [(h0, .inr (9, [.ref a1, .ref a2, .ref a3, .ref a4, .ref a5, .ref a6, .int 0, .int 1, .int 0, .int 0, .int 0])), (a2, .inl (cA2, 4002, .inl (g2)))])) (va_Qi (fun (r : Int32) (_ : Unit) => r = 0) (fun _ t => va_P (dC, dI) vwCl [(h0, .inr (9, [.ref a1, .ref a2, .ref a3, .ref a4, .ref a5, .ref a6, .int 0, .int 1, .int 0, .int 0, .int (-1)])), (a2, .inl (cA2, 4002, .inl (g2)))] t.heap ∧ va_K (dC, dI) vwCl [(cA2, .int)] t ∧ va_D (va_A [(h0, .inr (9, [.ref a1, .ref a2, .ref a3, .ref a4, .ref a5, .ref a6, .int 0, .int 1, .int 0, .int 0, .int 0])), (a2, .inl (cA2, 4002, .inl (g2)))] sz) [(h0, .inr (9, [.ref a1, .ref a2, .ref a3, .ref a4, .ref a5, .ref a6, .int 0, .int 1, .int 0, .int 0, .int (-1)])), (a2, .inl (cA2, 4002, .inl (g2)))]) (va_A [(h0, .inr (9, [.ref a1, .ref a2, .ref a3, .ref a4, .ref a5, .ref a6, .int 0, .int 1, .int 0, .int 0, .int 0])), (a2, .inl (cA2, 4002, .inl (g2)))] sz)) (0) (0) (va_A [(h0, .inr (9, [.ref a1, .ref a2, .ref a3, .ref a4, .ref a5, .ref a6, .int 0, .int 1, .int 0, .int 0, .int 0])), (a2, .inl (cA2, 4002, .inl (g2)))] sz) := by
  refine Met.ofW (cc := cX9_whole) (maxL := 3) (ret := (some .boolean)) (by decide) rfl ?_
  intro p e s m args below meth c s₁ B hml hv
  obtain ⟨rfl, hsz, hP, hK, hD0⟩ := hv
  have hx := B.exec
  have hb := B.bytes
  have hr := B.returns
  have hts := atoms_spec (ws := wc_X9_whole) B.pre
  have hown : s.vm.findClass RX9 = some m.cls := findClass_of_methodNamed B.named
  have hlocks := B.notSynchronized
  subst hsz
  have hD := hD0.self (sz := s.heap.size)
  generalize hAe : va_A [(h0, .inr (9, [.ref a1, .ref a2, .ref a3, .ref a4, .ref a5, .ref a6, .int 0, .int 1, .int 0, .int 0, .int 0])), (a2, .inl (cA2, 4002, .inl (g2)))] s.heap.size = A at hD ⊢
  have hA : ∀ q : Nat, s.heap.size ≤ q → A q := fun q h => by rw [← hAe]; exact Or.inr h
  have hS : va_S A s.heap s.heap [] := va_S.rf
  have hl := lv_entry ([.ref h0]) (n := 3) (Nat.le_of_ble_eq_true rfl)
  rw [lg_entry_eq]
  generalize (lg_sl ([.ref h0]) ++ List.replicate (3 - (lg_sl ([.ref h0])).length) Slot.unset).toArray = ls at hl ⊢
  have hl : lv_has ls 3 [(0, .ref h0)] := hl
  refine lv_aload_n hx hb dX9_whole_0 rfl (lv_at hl 0 rfl) ?_
  refine lv_iconst (v := -1) hx hb dX9_whole_1 (by decide) ?_
  refine va_put (D := (dC, dI)) (ci := 9) (v := .int (-1)) (ty := .int) (C := RX9) (T := TX9) (N := 11) hx hb hts (by decide +kernel) tyX9 tyX9_ok nmX9 hown hK hP hD hS 0 rfl rfl 10 (by decide) (hts (.fieldLink RX9 112 "ProofBench$Tape" "wrongAt" "I") (by decide +kernel)) (fun _ h9 => h9) rfl (by decide +kernel) rfl rfl (Nat.le_of_ble_eq_true rfl) dX9_whole_2 (fun H locs hP hD hS => ?_)
  have hP : va_P (dC, dI) vwCl [(h0, .inr (9, [.ref a1, .ref a2, .ref a3, .ref a4, .ref a5, .ref a6, .int 0, .int 1, .int 0, .int 0, .int (-1)])), (a2, .inl (cA2, 4002, .inl (g2)))] H := hP
  have hD : va_D A [(h0, .inr (9, [.ref a1, .ref a2, .ref a3, .ref a4, .ref a5, .ref a6, .int 0, .int 1, .int 0, .int 0, .int (-1)])), (a2, .inl (cA2, 4002, .inl (g2)))] := hD
  refine lv_aload_n hx hb dX9_whole_5 rfl (lv_at hl 0 rfl) ?_
  refine lv_aload_n hx hb dX9_whole_6 rfl (lv_at hl 0 rfl) ?_
  refine va_get (D := (dC, dI)) (ci := 9) (v := .int 0) (C := RX9) (T := TX9) (N := 11) hx hb hts (by decide +kernel) hown hK hP 0 rfl rfl 8 (by decide) (hts (.fieldLink RX9 50 "ProofBench$Tape" "next" "I") (by decide +kernel)) (fun _ h9 => h9) rfl dX9_whole_7 ?_
  have hPc := hP.sub (ws' := [(h0, .inr (9, [.ref a1, .ref a2, .ref a3, .ref a4, .ref a5, .ref a6, .int 0, .int 1, .int 0, .int 0, .int (-1)])), (a2, .inl (cA2, 4002, .inl (g2)))]) [0, 1] rfl
  have hDc := hD.sub (ws' := [(h0, .inr (9, [.ref a1, .ref a2, .ref a3, .ref a4, .ref a5, .ref a6, .int 0, .int 1, .int 0, .int 0, .int (-1)])), (a2, .inl (cA2, 4002, .inl (g2)))]) [0, 1] (by decide) rfl
  have hKc := hK.sub (tys' := [(cA2, .int)]) [0] rfl
  have hFc := va_free (wc := [(h0, .inr (9, [.ref a1, .ref a2, .ref a3, .ref a4, .ref a5, .ref a6, .int 0, .int 1, .int 0, .int 0, .int (-1)])), (a2, .inl (cA2, 4002, .inl (g2)))]) hD hS hA [0, 1] rfl
  refine va_calli (va_runV (As := [.int 0]) (rest := []) ⟨hx, hb, hml, hown, hts⟩ (c_kindAt l dC dI H.size h0 a1 a2 a3 a4 a5 a6 cA2 g2 hg) (cwV 1 hts gc_X9_whole__X9_kindAt rfl rfl rfl (by decide +kernel) ⟨Nat.le_of_ble_eq_true rfl, Nat.le_of_ble_eq_true rfl⟩) ⟨fun a U g mk q => by obtain ⟨q0, q1, qP, qK, qD⟩ := q; exact ⟨q0, q1, qP, va_K.moved (u := U) (U := U.calling g mk a) (Vm.Alike.refl U.vm) qK, qD⟩, va_recv hKc hPc (ci := 9) (q0 := 0) rfl rfl, fun U hU hW => ⟨rfl, by rw [hU], by rw [hU]; exact hPc, va_K.moved hW.alike hKc, hDc.weaken (fun _ _ _ _ => trivial)⟩⟩ rfl rfl hl.1 rfl (lv_room (Nat.le_of_ble_eq_true rfl)) dX9_whole_10 ⟨(show 0 + 0 ≤ 0 by omega), (show 0 + 0 ≤ 0 by omega)⟩) hS (fun q _ h => hFc q h) hFc (fun r0 u t H1 locs ht hvm hw hB hz1 hk1 hS => ?_)
  obtain ⟨hP1, hK1, hD1⟩ := hB
  rw [ht] at hP1
  have hK1 := va_K.moved hvm.symm hK1
  obtain ⟨hP, hD⟩ := va_join (wr := []) (w1 := [(h0, .inr (9, [.ref a1, .ref a2, .ref a3, .ref a4, .ref a5, .ref a6, .int 0, .int 1, .int 0, .int 0, .int (-1)])), (a2, .inl (cA2, 4002, .inl (g2)))]) hP hD [0, 1] [] rfl rfl (by decide) (by decide) hk1 hFc hP1 hD1
  have hK := (hK.sub (tys' := [(cA2, .int)]) [0] rfl).app hK1
  generalize H1 = H at hP hS ⊢
  have hP : va_P (dC, dI) vwCl [(h0, .inr (9, [.ref a1, .ref a2, .ref a3, .ref a4, .ref a5, .ref a6, .int 0, .int 1, .int 0, .int 0, .int (-1)])), (a2, .inl (cA2, 4002, .inl (g2)))] H := hP
  have hD : va_D A [(h0, .inr (9, [.ref a1, .ref a2, .ref a3, .ref a4, .ref a5, .ref a6, .int 0, .int 1, .int 0, .int 0, .int (-1)])), (a2, .inl (cA2, 4002, .inl (g2)))] := hD
  have hK : va_K (dC, dI) vwCl [(cA2, .int), (cA2, .int)] s := hK
  refine W.widen (k := 0) (n := 0) (by omega) (by omega) ?_
  subst hw
  refine lv_if_ne (tgt := 18) hx hb dX9_whole_13 (by decide) (fun c9 => absurd c9 (by decide)) (fun _ => ?_)
  refine lv_iconst (v := 0) hx hb dX9_whole_16 (by decide) ?_
  have hP9 := hP.sub (ws' := [(h0, .inr (9, [.ref a1, .ref a2, .ref a3, .ref a4, .ref a5, .ref a6, .int 0, .int 1, .int 0, .int 0, .int (-1)])), (a2, .inl (cA2, 4002, .inl (g2)))]) [0, 1] rfl
  have hD9 := hD.sub (ws' := [(h0, .inr (9, [.ref a1, .ref a2, .ref a3, .ref a4, .ref a5, .ref a6, .int 0, .int 1, .int 0, .int 0, .int (-1)])), (a2, .inl (cA2, 4002, .inl (g2)))]) [0, 1] (by decide) rfl
  have hK9 := hK.sub (tys' := [(cA2, .int)]) [0] rfl
  refine W.widen (k := 0) (n := 0) (by omega) (by omega) ?_
  exact W.zret (v := 0) hx hb hr (rfl) (fun t ht hW => ⟨⟨0, (), rfl, rfl, by rw [ht]; exact hP9, va_K.moved hW.alike hK9, hD9⟩, hS.F ht⟩) hS.2.2 dX9_whole_17
def wc_X9_add : List Cond := .code yX9_add cX9_add 5 none :: ([Cond.fieldLink RX9 47 "ProofBench$Tape" "count" "I", Cond.fieldLink RX9 15 "ProofBench$Tape" "kinds" "[I", Cond.fieldLink RX9 19 "ProofBench$Tape" "starts" "[I", Cond.fieldLink RX9 22 "ProofBench$Tape" "worths" "[J"] ++ wsX90)
set_option maxHeartbeats 1000000 in
set_option maxRecDepth 100000 in
/-- add(END, 0, 0) to no TOKENS -/
theorem c_add (l : Launch) (dC : Nat → ClassId) (dI : Nat → Nat → Nat) (sz : Nat) (h0 a1 a2 a3 a4 a5 a6 : Nat) (cA2 cA3 cA4 : ClassId) (g2 g3 : Nat → Int32) (g4 : Nat → Int64) : Met l yX9_add wc_X9_add ({ frames := 0, cells := 0, slots := 0, locals := 0 }) (va_Pc [.ref h0, .int 0, .int 0, .long 0] (fun U => U.heap.size = sz ∧ va_P (dC, dI) vwCl [(h0, .inr (9, [.ref a1, .ref a2, .ref a3, .ref a4, .ref a5, .ref a6, .int 0, .int 0, .int 0, .int 0, .int 0])), (a2, .inl (cA2, 4002, .inl (g2))), (a3, .inl (cA3, 4002, .inl (g3))), (a4, .inl (cA4, 4002, .inr (.inl (g4))))] U.heap ∧ va_K (dC, dI) vwCl [(cA2, .int), (cA3, .int), (cA4, .long)] U ∧ va_D (fun _ => True) [(h0, .inr (9, [.ref a1, .ref a2, .ref a3, .ref a4, .ref a5, .ref a6, .int 0, .int 0, .int 0, .int 0, .int 0])), (a2, .inl (cA2, 4002, .inl (g2))), (a3, .inl (cA3, 4002, .inl (g3))), (a4, .inl (cA4, 4002, .inr (.inl (g4))))])) (va_Qv (fun _ : Unit => True) (fun _ t => ∃ (k9 : Nat → Int32), va_P (dC, dI) vwCl [(h0, .inr (9, [.ref a1, .ref a2, .ref a3, .ref a4, .ref a5, .ref a6, .int 0, .int 1, .int 0, .int 0, .int 0])), (a2, .inl (cA2, 4002, .inl (k9)))] t.heap ∧ va_K (dC, dI) vwCl [(cA2, .int)] t ∧ va_D (va_A [(h0, .inr (9, [.ref a1, .ref a2, .ref a3, .ref a4, .ref a5, .ref a6, .int 0, .int 0, .int 0, .int 0, .int 0])), (a2, .inl (cA2, 4002, .inl (g2))), (a3, .inl (cA3, 4002, .inl (g3))), (a4, .inl (cA4, 4002, .inr (.inl (g4))))] sz) [(h0, .inr (9, [.ref a1, .ref a2, .ref a3, .ref a4, .ref a5, .ref a6, .int 0, .int 1, .int 0, .int 0, .int 0])), (a2, .inl (cA2, 4002, .inl (k9)))] ∧ k9 0 = 0) (va_A [(h0, .inr (9, [.ref a1, .ref a2, .ref a3, .ref a4, .ref a5, .ref a6, .int 0, .int 0, .int 0, .int 0, .int 0])), (a2, .inl (cA2, 4002, .inl (g2))), (a3, .inl (cA3, 4002, .inl (g3))), (a4, .inl (cA4, 4002, .inr (.inl (g4))))] sz)) (0) (0) (va_A [(h0, .inr (9, [.ref a1, .ref a2, .ref a3, .ref a4, .ref a5, .ref a6, .int 0, .int 0, .int 0, .int 0, .int 0])), (a2, .inl (cA2, 4002, .inl (g2))), (a3, .inl (cA3, 4002, .inl (g3))), (a4, .inl (cA4, 4002, .inr (.inl (g4))))] sz) := by
  refine Met.ofW (cc := cX9_add) (maxL := 5) (ret := none) (by decide) rfl ?_
  intro p e s m args below meth c s₁ B hml hv
  obtain ⟨rfl, hsz, hP, hK, hD0⟩ := hv
  have hx := B.exec
  have hb := B.bytes
  have hr := B.returns
  have hts := atoms_spec (ws := wc_X9_add) B.pre
  have hown : s.vm.findClass RX9 = some m.cls := findClass_of_methodNamed B.named
  have hlocks := B.notSynchronized
  subst hsz
  have hD := hD0.self (sz := s.heap.size)
  generalize hAe : va_A [(h0, .inr (9, [.ref a1, .ref a2, .ref a3, .ref a4, .ref a5, .ref a6, .int 0, .int 0, .int 0, .int 0, .int 0])), (a2, .inl (cA2, 4002, .inl (g2))), (a3, .inl (cA3, 4002, .inl (g3))), (a4, .inl (cA4, 4002, .inr (.inl (g4))))] s.heap.size = A at hD ⊢
  have hA : ∀ q : Nat, s.heap.size ≤ q → A q := fun q h => by rw [← hAe]; exact Or.inr h
  have hS : va_S A s.heap s.heap [] := va_S.rf
  have hl := lv_entry ([.ref h0, .int 0, .int 0, .long 0]) (n := 5) (Nat.le_of_ble_eq_true rfl)
  rw [lg_entry_eq]
  generalize (lg_sl ([.ref h0, .int 0, .int 0, .long 0]) ++ List.replicate (5 - (lg_sl ([.ref h0, .int 0, .int 0, .long 0])).length) Slot.unset).toArray = ls at hl ⊢
  have hl : lv_has ls 5 [(0, .ref h0), (1, .int 0), (2, .int 0), (3, .long 0)] := hl
  refine lv_aload_n hx hb dX9_add_0 rfl (lv_at hl 0 rfl) ?_
  refine va_get (D := (dC, dI)) (ci := 9) (v := .int 0) (C := RX9) (T := TX9) (N := 11) hx hb hts (by decide +kernel) hown hK hP 0 rfl rfl 7 (by decide) (hts (.fieldLink RX9 47 "ProofBench$Tape" "count" "I") (by decide +kernel)) (fun _ h9 => h9) rfl dX9_add_1 ?_
  refine lv_aload_n hx hb dX9_add_4 rfl (lv_at hl 0 rfl) ?_
  refine va_get (D := (dC, dI)) (ci := 9) (v := .ref a2) (C := RX9) (T := TX9) (N := 11) hx hb hts (by decide +kernel) hown hK hP 0 rfl rfl 1 (by decide) (hts (.fieldLink RX9 15 "ProofBench$Tape" "kinds" "[I") (by decide +kernel)) (fun _ h9 => h9) rfl dX9_add_5 ?_
  refine va_alen hx hb hK hP 1 0 rfl rfl (v := 4002) (show Int32.ofNat 4002 = 4002 from by decide) dX9_add_8 ?_
  refine lv_icmp_ge (tgt := 52) hx hb dX9_add_9 (by decide) (fun c9 => absurd c9 (by decide)) (fun _ => ?_)
  refine lv_aload_n hx hb dX9_add_12 rfl (lv_at hl 0 rfl) ?_
  refine va_get (D := (dC, dI)) (ci := 9) (v := .ref a2) (C := RX9) (T := TX9) (N := 11) hx hb hts (by decide +kernel) hown hK hP 0 rfl rfl 1 (by decide) (hts (.fieldLink RX9 15 "ProofBench$Tape" "kinds" "[I") (by decide +kernel)) (fun _ h9 => h9) rfl dX9_add_13 ?_
  refine lv_aload_n hx hb dX9_add_16 rfl (lv_at hl 0 rfl) ?_
  refine va_get (D := (dC, dI)) (ci := 9) (v := .int 0) (C := RX9) (T := TX9) (N := 11) hx hb hts (by decide +kernel) hown hK hP 0 rfl rfl 7 (by decide) (hts (.fieldLink RX9 47 "ProofBench$Tape" "count" "I") (by decide +kernel)) (fun _ h9 => h9) rfl dX9_add_17 ?_
  refine lv_iload_n hx hb dX9_add_20 rfl (lv_at hl 1 rfl) ?_
  refine va_iast hx hb hK hP hD hS 1 0 rfl rfl (show vp_in (0) 4002 from by unfold vp_in; decide) dX9_add_21 (fun H locs hP hD hS => ?_)
  obtain ⟨k9, hP, hD, hk9⟩ : ∃ k9 : Nat → Int32, va_P (dC, dI) vwCl [(h0, .inr (9, [.ref a1, .ref a2, .ref a3, .ref a4, .ref a5, .ref a6, .int 0, .int 0, .int 0, .int 0, .int 0])), (a2, .inl (cA2, 4002, .inl (k9))), (a3, .inl (cA3, 4002, .inl (g3))), (a4, .inl (cA4, 4002, .inr (.inl (g4))))] H ∧ va_D A [(h0, .inr (9, [.ref a1, .ref a2, .ref a3, .ref a4, .ref a5, .ref a6, .int 0, .int 0, .int 0, .int 0, .int 0])), (a2, .inl (cA2, 4002, .inl (k9))), (a3, .inl (cA3, 4002, .inl (g3))), (a4, .inl (cA4, 4002, .inr (.inl (g4))))] ∧ k9 0 = 0 := ⟨_, hP, hD, pk_us⟩
  refine lv_aload_n hx hb dX9_add_22 rfl (lv_at hl 0 rfl) ?_
  refine va_get (D := (dC, dI)) (ci := 9) (v := .ref a3) (C := RX9) (T := TX9) (N := 11) hx hb hts (by decide +kernel) hown hK hP 0 rfl rfl 2 (by decide) (hts (.fieldLink RX9 19 "ProofBench$Tape" "starts" "[I") (by decide +kernel)) (fun _ h9 => h9) rfl dX9_add_23 ?_
  refine lv_aload_n hx hb dX9_add_26 rfl (lv_at hl 0 rfl) ?_
  refine va_get (D := (dC, dI)) (ci := 9) (v := .int 0) (C := RX9) (T := TX9) (N := 11) hx hb hts (by decide +kernel) hown hK hP 0 rfl rfl 7 (by decide) (hts (.fieldLink RX9 47 "ProofBench$Tape" "count" "I") (by decide +kernel)) (fun _ h9 => h9) rfl dX9_add_27 ?_
  refine lv_iload_n hx hb dX9_add_30 rfl (lv_at hl 2 rfl) ?_
  refine va_iast hx hb hK hP hD hS 2 1 rfl rfl (show vp_in (0) 4002 from by unfold vp_in; decide) dX9_add_31 (fun H locs hP hD hS => ?_)
  obtain ⟨f_1, hP, hD⟩ : ∃ f9 : Nat → Int32, va_P (dC, dI) vwCl [(h0, .inr (9, [.ref a1, .ref a2, .ref a3, .ref a4, .ref a5, .ref a6, .int 0, .int 0, .int 0, .int 0, .int 0])), (a2, .inl (cA2, 4002, .inl (k9))), (a3, .inl (cA3, 4002, .inl (f9))), (a4, .inl (cA4, 4002, .inr (.inl (g4))))] H ∧ va_D A [(h0, .inr (9, [.ref a1, .ref a2, .ref a3, .ref a4, .ref a5, .ref a6, .int 0, .int 0, .int 0, .int 0, .int 0])), (a2, .inl (cA2, 4002, .inl (k9))), (a3, .inl (cA3, 4002, .inl (f9))), (a4, .inl (cA4, 4002, .inr (.inl (g4))))] := ⟨_, hP, hD⟩
  refine lv_aload_n hx hb dX9_add_32 rfl (lv_at hl 0 rfl) ?_
  refine va_get (D := (dC, dI)) (ci := 9) (v := .ref a4) (C := RX9) (T := TX9) (N := 11) hx hb hts (by decide +kernel) hown hK hP 0 rfl rfl 3 (by decide) (hts (.fieldLink RX9 22 "ProofBench$Tape" "worths" "[J") (by decide +kernel)) (fun _ h9 => h9) rfl dX9_add_33 ?_
  refine lv_aload_n hx hb dX9_add_36 rfl (lv_at hl 0 rfl) ?_
  refine va_get (D := (dC, dI)) (ci := 9) (v := .int 0) (C := RX9) (T := TX9) (N := 11) hx hb hts (by decide +kernel) hown hK hP 0 rfl rfl 7 (by decide) (hts (.fieldLink RX9 47 "ProofBench$Tape" "count" "I") (by decide +kernel)) (fun _ h9 => h9) rfl dX9_add_37 ?_
  refine lv_lload_n hx hb dX9_add_40 rfl (lv_at hl 3 rfl) ?_
  refine va_last hx hb hK hP hD hS 3 2 rfl rfl (show vp_in (0) 4002 from by unfold vp_in; decide) dX9_add_41 (fun H locs hP hD hS => ?_)
  obtain ⟨f_2, hP, hD⟩ : ∃ f9 : Nat → Int64, va_P (dC, dI) vwCl [(h0, .inr (9, [.ref a1, .ref a2, .ref a3, .ref a4, .ref a5, .ref a6, .int 0, .int 0, .int 0, .int 0, .int 0])), (a2, .inl (cA2, 4002, .inl (k9))), (a3, .inl (cA3, 4002, .inl (f_1))), (a4, .inl (cA4, 4002, .inr (.inl (f9))))] H ∧ va_D A [(h0, .inr (9, [.ref a1, .ref a2, .ref a3, .ref a4, .ref a5, .ref a6, .int 0, .int 0, .int 0, .int 0, .int 0])), (a2, .inl (cA2, 4002, .inl (k9))), (a3, .inl (cA3, 4002, .inl (f_1))), (a4, .inl (cA4, 4002, .inr (.inl (f9))))] := ⟨_, hP, hD⟩
  refine lv_aload_n hx hb dX9_add_42 rfl (lv_at hl 0 rfl) ?_
  refine lv_dup hx hb dX9_add_43 rfl ?_
  refine va_get (D := (dC, dI)) (ci := 9) (v := .int 0) (C := RX9) (T := TX9) (N := 11) hx hb hts (by decide +kernel) hown hK hP 0 rfl rfl 7 (by decide) (hts (.fieldLink RX9 47 "ProofBench$Tape" "count" "I") (by decide +kernel)) (fun _ h9 => h9) rfl dX9_add_44 ?_
  refine lv_iconst (v := 1) hx hb dX9_add_47 (by decide) ?_
  refine lv_iadd hx hb dX9_add_48 ?_
  refine lv_topi (fun z_3 e9 => ?_)
  obtain rfl : z_3 = 1 := by rw [e9]; decide
  refine va_put (D := (dC, dI)) (ci := 9) (v := .int 1) (ty := .int) (C := RX9) (T := TX9) (N := 11) hx hb hts (by decide +kernel) tyX9 tyX9_ok nmX9 hown hK hP hD hS 0 rfl rfl 7 (by decide) (hts (.fieldLink RX9 47 "ProofBench$Tape" "count" "I") (by decide +kernel)) (fun _ h9 => h9) rfl (by decide +kernel) rfl rfl (Nat.le_of_ble_eq_true rfl) dX9_add_49 (fun H locs hP hD hS => ?_)
  have hP : va_P (dC, dI) vwCl [(h0, .inr (9, [.ref a1, .ref a2, .ref a3, .ref a4, .ref a5, .ref a6, .int 0, .int 1, .int 0, .int 0, .int 0])), (a2, .inl (cA2, 4002, .inl (k9))), (a3, .inl (cA3, 4002, .inl (f_1))), (a4, .inl (cA4, 4002, .inr (.inl (f_2))))] H := hP
  have hD : va_D A [(h0, .inr (9, [.ref a1, .ref a2, .ref a3, .ref a4, .ref a5, .ref a6, .int 0, .int 1, .int 0, .int 0, .int 0])), (a2, .inl (cA2, 4002, .inl (k9))), (a3, .inl (cA3, 4002, .inl (f_1))), (a4, .inl (cA4, 4002, .inr (.inl (f_2))))] := hD
  have hP9 := hP.sub (ws' := [(h0, .inr (9, [.ref a1, .ref a2, .ref a3, .ref a4, .ref a5, .ref a6, .int 0, .int 1, .int 0, .int 0, .int 0])), (a2, .inl (cA2, 4002, .inl (k9)))]) [0, 1] rfl
  have hD9 := hD.sub (ws' := [(h0, .inr (9, [.ref a1, .ref a2, .ref a3, .ref a4, .ref a5, .ref a6, .int 0, .int 1, .int 0, .int 0, .int 0])), (a2, .inl (cA2, 4002, .inl (k9)))]) [0, 1] (by decide) rfl
  have hK9 := hK.sub (tys' := [(cA2, .int)]) [0] rfl
  refine W.widen (k := 0) (n := 0) (by omega) (by omega) ?_
  exact W.vret hx hb hr (fun t ht hW => ⟨⟨(), rfl, trivial, k9, by rw [ht]; exact hP9, va_K.moved hW.alike hK9, hD9, hk9⟩, hS.F ht⟩) hS.2.2 dX9_add_52
def wc_X9_scan : List Cond := .code yX9_scan cX9_scan 4 none :: ([Cond.fieldLink RX9 47 "ProofBench$Tape" "count" "I", Cond.fieldLink RX9 50 "ProofBench$Tape" "next" "I", Cond.fieldLink RX9 44 "ProofBench$Tape" "length" "I"] ++ wsX90 ++ wsV RX9 66 RX9 yX9_add wc_X9_add)
set_option maxRecDepth 20000 in
theorem gc_X9_scan__X9_add : GoodIn wc_X9_scan (wsV RX9 66 RX9 yX9_add wc_X9_add) := goodIn_of _ (by decide +kernel)
set_option maxHeartbeats 1000000 in
set_option maxRecDepth 100000 in
/-- scan() of an empty TAPE -/
theorem c_scan (l : Launch) (dC : Nat → ClassId) (dI : Nat → Nat → Nat) (sz : Nat) (h0 a1 a2 a3 a4 a5 a6 : Nat) (cA2 cA3 cA4 : ClassId) (g2 g3 : Nat → Int32) (g4 : Nat → Int64) : Met l yX9_scan wc_X9_scan ({ frames := 1, cells := 0, slots := 0, locals := 24 }) (va_Pc [.ref h0] (fun U => U.heap.size = sz ∧ va_P (dC, dI) vwCl [(h0, .inr (9, [.ref a1, .ref a2, .ref a3, .ref a4, .ref a5, .ref a6, .int 0, .int 0, .int 0, .int 0, .int 0])), (a2, .inl (cA2, 4002, .inl (g2))), (a3, .inl (cA3, 4002, .inl (g3))), (a4, .inl (cA4, 4002, .inr (.inl (g4))))] U.heap ∧ va_K (dC, dI) vwCl [(cA2, .int), (cA3, .int), (cA4, .long)] U ∧ va_D (fun _ => True) [(h0, .inr (9, [.ref a1, .ref a2, .ref a3, .ref a4, .ref a5, .ref a6, .int 0, .int 0, .int 0, .int 0, .int 0])), (a2, .inl (cA2, 4002, .inl (g2))), (a3, .inl (cA3, 4002, .inl (g3))), (a4, .inl (cA4, 4002, .inr (.inl (g4))))])) (va_Qv (fun _ : Unit => True) (fun _ t => ∃ (k9 : Nat → Int32), va_P (dC, dI) vwCl [(h0, .inr (9, [.ref a1, .ref a2, .ref a3, .ref a4, .ref a5, .ref a6, .int 0, .int 1, .int 0, .int 0, .int 0])), (a2, .inl (cA2, 4002, .inl (k9)))] t.heap ∧ va_K (dC, dI) vwCl [(cA2, .int)] t ∧ va_D (va_A [(h0, .inr (9, [.ref a1, .ref a2, .ref a3, .ref a4, .ref a5, .ref a6, .int 0, .int 0, .int 0, .int 0, .int 0])), (a2, .inl (cA2, 4002, .inl (g2))), (a3, .inl (cA3, 4002, .inl (g3))), (a4, .inl (cA4, 4002, .inr (.inl (g4))))] sz) [(h0, .inr (9, [.ref a1, .ref a2, .ref a3, .ref a4, .ref a5, .ref a6, .int 0, .int 1, .int 0, .int 0, .int 0])), (a2, .inl (cA2, 4002, .inl (k9)))] ∧ k9 0 = 0) (va_A [(h0, .inr (9, [.ref a1, .ref a2, .ref a3, .ref a4, .ref a5, .ref a6, .int 0, .int 0, .int 0, .int 0, .int 0])), (a2, .inl (cA2, 4002, .inl (g2))), (a3, .inl (cA3, 4002, .inl (g3))), (a4, .inl (cA4, 4002, .inr (.inl (g4))))] sz)) (0) (0) (va_A [(h0, .inr (9, [.ref a1, .ref a2, .ref a3, .ref a4, .ref a5, .ref a6, .int 0, .int 0, .int 0, .int 0, .int 0])), (a2, .inl (cA2, 4002, .inl (g2))), (a3, .inl (cA3, 4002, .inl (g3))), (a4, .inl (cA4, 4002, .inr (.inl (g4))))] sz) := by
  refine Met.ofW (cc := cX9_scan) (maxL := 4) (ret := none) (by decide) rfl ?_
  intro p e s m args below meth c s₁ B hml hv
  obtain ⟨rfl, hsz, hP, hK, hD0⟩ := hv
  have hx := B.exec
  have hb := B.bytes
  have hr := B.returns
  have hts := atoms_spec (ws := wc_X9_scan) B.pre
  have hown : s.vm.findClass RX9 = some m.cls := findClass_of_methodNamed B.named
  have hlocks := B.notSynchronized
  subst hsz
  have hD := hD0.self (sz := s.heap.size)
  generalize hAe : va_A [(h0, .inr (9, [.ref a1, .ref a2, .ref a3, .ref a4, .ref a5, .ref a6, .int 0, .int 0, .int 0, .int 0, .int 0])), (a2, .inl (cA2, 4002, .inl (g2))), (a3, .inl (cA3, 4002, .inl (g3))), (a4, .inl (cA4, 4002, .inr (.inl (g4))))] s.heap.size = A at hD ⊢
  have hA : ∀ q : Nat, s.heap.size ≤ q → A q := fun q h => by rw [← hAe]; exact Or.inr h
  have hS : va_S A s.heap s.heap [] := va_S.rf
  have hl := lv_entry ([.ref h0]) (n := 4) (Nat.le_of_ble_eq_true rfl)
  rw [lg_entry_eq]
  generalize (lg_sl ([.ref h0]) ++ List.replicate (4 - (lg_sl ([.ref h0])).length) Slot.unset).toArray = ls at hl ⊢
  have hl : lv_has ls 4 [(0, .ref h0)] := hl
  refine lv_aload_n hx hb dX9_scan_0 rfl (lv_at hl 0 rfl) ?_
  refine lv_iconst (v := 0) hx hb dX9_scan_1 (by decide) ?_
  refine va_put (D := (dC, dI)) (ci := 9) (v := .int 0) (ty := .int) (C := RX9) (T := TX9) (N := 11) hx hb hts (by decide +kernel) tyX9 tyX9_ok nmX9 hown hK hP hD hS 0 rfl rfl 7 (by decide) (hts (.fieldLink RX9 47 "ProofBench$Tape" "count" "I") (by decide +kernel)) (fun _ h9 => h9) rfl (by decide +kernel) rfl rfl (Nat.le_of_ble_eq_true rfl) dX9_scan_2 (fun H locs hP hD hS => ?_)
  have hP : va_P (dC, dI) vwCl [(h0, .inr (9, [.ref a1, .ref a2, .ref a3, .ref a4, .ref a5, .ref a6, .int 0, .int 0, .int 0, .int 0, .int 0])), (a2, .inl (cA2, 4002, .inl (g2))), (a3, .inl (cA3, 4002, .inl (g3))), (a4, .inl (cA4, 4002, .inr (.inl (g4))))] H := hP
  have hD : va_D A [(h0, .inr (9, [.ref a1, .ref a2, .ref a3, .ref a4, .ref a5, .ref a6, .int 0, .int 0, .int 0, .int 0, .int 0])), (a2, .inl (cA2, 4002, .inl (g2))), (a3, .inl (cA3, 4002, .inl (g3))), (a4, .inl (cA4, 4002, .inr (.inl (g4))))] := hD
  refine lv_aload_n hx hb dX9_scan_5 rfl (lv_at hl 0 rfl) ?_
  refine lv_iconst (v := 0) hx hb dX9_scan_6 (by decide) ?_
  refine va_put (D := (dC, dI)) (ci := 9) (v := .int 0) (ty := .int) (C := RX9) (T := TX9) (N := 11) hx hb hts (by decide +kernel) tyX9 tyX9_ok nmX9 hown hK hP hD hS 0 rfl rfl 8 (by decide) (hts (.fieldLink RX9 50 "ProofBench$Tape" "next" "I") (by decide +kernel)) (fun _ h9 => h9) rfl (by decide +kernel) rfl rfl (Nat.le_of_ble_eq_true rfl) dX9_scan_7 (fun H locs hP hD hS => ?_)
  have hP : va_P (dC, dI) vwCl [(h0, .inr (9, [.ref a1, .ref a2, .ref a3, .ref a4, .ref a5, .ref a6, .int 0, .int 0, .int 0, .int 0, .int 0])), (a2, .inl (cA2, 4002, .inl (g2))), (a3, .inl (cA3, 4002, .inl (g3))), (a4, .inl (cA4, 4002, .inr (.inl (g4))))] H := hP
  have hD : va_D A [(h0, .inr (9, [.ref a1, .ref a2, .ref a3, .ref a4, .ref a5, .ref a6, .int 0, .int 0, .int 0, .int 0, .int 0])), (a2, .inl (cA2, 4002, .inl (g2))), (a3, .inl (cA3, 4002, .inl (g3))), (a4, .inl (cA4, 4002, .inr (.inl (g4))))] := hD
  refine lv_iconst (v := 0) hx hb dX9_scan_10 (by decide) ?_
  refine lv_istore_n (lv' := [(1, .int 0), (0, .ref h0)]) hx hb dX9_scan_11 rfl hl (by decide) rfl (fun ls hl => ?_)
  refine lv_iload_n hx hb dX9_scan_12 rfl (lv_at hl 0 rfl) ?_
  refine lv_aload_n hx hb dX9_scan_13 rfl (lv_at hl 1 rfl) ?_
  refine va_get (D := (dC, dI)) (ci := 9) (v := .int 0) (C := RX9) (T := TX9) (N := 11) hx hb hts (by decide +kernel) hown hK hP 0 rfl rfl 6 (by decide) (hts (.fieldLink RX9 44 "ProofBench$Tape" "length" "I") (by decide +kernel)) (fun _ h9 => h9) rfl dX9_scan_14 ?_
  refine lv_icmp_ge (tgt := 60) hx hb dX9_scan_17 (by decide) (fun _ => ?_) (fun c9 => absurd c9 (by decide))
  refine lv_aload_n hx hb dX9_scan_60 rfl (lv_at hl 1 rfl) ?_
  refine lv_iconst (v := 0) hx hb dX9_scan_61 (by decide) ?_
  refine lv_aload_n hx hb dX9_scan_62 rfl (lv_at hl 1 rfl) ?_
  refine va_get (D := (dC, dI)) (ci := 9) (v := .int 0) (C := RX9) (T := TX9) (N := 11) hx hb hts (by decide +kernel) hown hK hP 0 rfl rfl 6 (by decide) (hts (.fieldLink RX9 44 "ProofBench$Tape" "length" "I") (by decide +kernel)) (fun _ h9 => h9) rfl dX9_scan_63 ?_
  refine lv_lconst (v := 0) hx hb dX9_scan_66 (by decide) ?_
  have hPc := hP.sub (ws' := [(h0, .inr (9, [.ref a1, .ref a2, .ref a3, .ref a4, .ref a5, .ref a6, .int 0, .int 0, .int 0, .int 0, .int 0])), (a2, .inl (cA2, 4002, .inl (g2))), (a3, .inl (cA3, 4002, .inl (g3))), (a4, .inl (cA4, 4002, .inr (.inl (g4))))]) [0, 1, 2, 3] rfl
  have hDc := hD.sub (ws' := [(h0, .inr (9, [.ref a1, .ref a2, .ref a3, .ref a4, .ref a5, .ref a6, .int 0, .int 0, .int 0, .int 0, .int 0])), (a2, .inl (cA2, 4002, .inl (g2))), (a3, .inl (cA3, 4002, .inl (g3))), (a4, .inl (cA4, 4002, .inr (.inl (g4))))]) [0, 1, 2, 3] (by decide) rfl
  have hKc := hK.sub (tys' := [(cA2, .int), (cA3, .int), (cA4, .long)]) [0, 1, 2] rfl
  have hFc := va_free (wc := [(h0, .inr (9, [.ref a1, .ref a2, .ref a3, .ref a4, .ref a5, .ref a6, .int 0, .int 0, .int 0, .int 0, .int 0])), (a2, .inl (cA2, 4002, .inl (g2))), (a3, .inl (cA3, 4002, .inl (g3))), (a4, .inl (cA4, 4002, .inr (.inl (g4))))]) hD hS hA [0, 1, 2, 3] rfl
  refine va_callv (va_runV (As := [.int 0, .int 0, .long 0]) (rest := []) ⟨hx, hb, hml, hown, hts⟩ (c_add l dC dI H.size h0 a1 a2 a3 a4 a5 a6 cA2 cA3 cA4 g2 g3 g4) (cwV 3 hts gc_X9_scan__X9_add rfl rfl rfl (by decide +kernel) ⟨Nat.le_of_ble_eq_true rfl, Nat.le_of_ble_eq_true rfl⟩) ⟨fun a U g mk q => by obtain ⟨q0, q1, qP, qK, qD⟩ := q; exact ⟨q0, q1, qP, va_K.moved (u := U) (U := U.calling g mk a) (Vm.Alike.refl U.vm) qK, qD⟩, va_recv hKc hPc (ci := 9) (q0 := 0) rfl rfl, fun U hU hW => ⟨rfl, by rw [hU], by rw [hU]; exact hPc, va_K.moved hW.alike hKc, hDc.weaken (fun _ _ _ _ => trivial)⟩⟩ rfl rfl hl.1 rfl (lv_room (Nat.le_of_ble_eq_true rfl)) dX9_scan_67 ⟨(show 0 + 0 ≤ 0 by omega), (show 0 + 0 ≤ 0 by omega)⟩) hS (fun q _ h => hFc q h) hFc (fun u t H1 locs ht hvm hw hB hz1 hk1 hS => ?_)
  obtain ⟨k9, hP1, hK1, hD1, hk9⟩ := hB
  rw [ht] at hP1
  have hK1 := va_K.moved hvm.symm hK1
  obtain ⟨hP, hD⟩ := va_join (wr := []) (w1 := [(h0, .inr (9, [.ref a1, .ref a2, .ref a3, .ref a4, .ref a5, .ref a6, .int 0, .int 1, .int 0, .int 0, .int 0])), (a2, .inl (cA2, 4002, .inl (k9)))]) hP hD [0, 1, 2, 3] [] rfl rfl (by decide) (by decide) hk1 hFc hP1 hD1
  have hK := (hK.sub (tys' := [(cA2, .int), (cA3, .int), (cA4, .long)]) [0, 1, 2] rfl).app hK1
  generalize H1 = H at hP hS ⊢
  have hP : va_P (dC, dI) vwCl [(h0, .inr (9, [.ref a1, .ref a2, .ref a3, .ref a4, .ref a5, .ref a6, .int 0, .int 1, .int 0, .int 0, .int 0])), (a2, .inl (cA2, 4002, .inl (k9)))] H := hP
  have hD : va_D A [(h0, .inr (9, [.ref a1, .ref a2, .ref a3, .ref a4, .ref a5, .ref a6, .int 0, .int 1, .int 0, .int 0, .int 0])), (a2, .inl (cA2, 4002, .inl (k9)))] := hD
  have hK : va_K (dC, dI) vwCl [(cA2, .int), (cA3, .int), (cA4, .long), (cA2, .int)] s := hK
  refine W.widen (k := 0) (n := 0) (by omega) (by omega) ?_
  have hP9 := hP.sub (ws' := [(h0, .inr (9, [.ref a1, .ref a2, .ref a3, .ref a4, .ref a5, .ref a6, .int 0, .int 1, .int 0, .int 0, .int 0])), (a2, .inl (cA2, 4002, .inl (k9)))]) [0, 1] rfl
  have hD9 := hD.sub (ws' := [(h0, .inr (9, [.ref a1, .ref a2, .ref a3, .ref a4, .ref a5, .ref a6, .int 0, .int 1, .int 0, .int 0, .int 0])), (a2, .inl (cA2, 4002, .inl (k9)))]) [0, 1] (by decide) rfl
  have hK9 := hK.sub (tys' := [(cA2, .int)]) [0] rfl
  refine W.widen (k := 0) (n := 0) (by omega) (by omega) ?_
  exact W.vret hx hb hr (fun t ht hW => ⟨⟨(), rfl, trivial, k9, by rw [ht]; exact hP9, va_K.moved hW.alike hK9, hD9, hk9⟩, hS.F ht⟩) hS.2.2 dX9_scan_70
def wc_X11_run : List Cond := .code yX11_run cX11_run 4 (some .int) :: ([Cond.fieldLink RX11 62 "ProofBench" "said" "LProofBench$Out;", Cond.fieldLink RX11 81 "ProofBench$Out" "count" "I", Cond.fieldLink RX11 10 "ProofBench" "tape" "LProofBench$Tape;", Cond.fieldLink RX11 113 "ProofBench$Tape" "wrongAt" "I", Cond.fieldLink RX11 70 "ProofBench" "wrongAt" "I", Cond.fieldLink RX11 74 "ProofBench$Tape" "length" "I"] ++ wsX110 ++ wsX40 ++ wsX90 ++ wsV RX11 84 RX9 yX9_scan wc_X9_scan ++ wsV RX11 87 RX9 yX9_whole wc_X9_whole)
set_option maxRecDepth 20000 in
theorem gc_X11_run__X9_scan : GoodIn wc_X11_run (wsV RX11 84 RX9 yX9_scan wc_X9_scan) := goodIn_of _ (by decide +kernel)
set_option maxRecDepth 20000 in
theorem gc_X11_run__X9_whole : GoodIn wc_X11_run (wsV RX11 87 RX9 yX9_whole wc_X9_whole) := goodIn_of _ (by decide +kernel)
set_option maxHeartbeats 1000000 in
set_option maxRecDepth 100000 in
/-- run() of an empty TAPE -/
theorem c_run (l : Launch) (dC : Nat → ClassId) (dI : Nat → Nat → Nat) (sz : Nat) (h0 p0 p1 p2 p3 p4 p5 p6 p7 o0 o1 o2 o3 a1 a2 a3 a4 a5 a6 : Nat) (cA2 cA3 cA4 : ClassId) (g2 g3 : Nat → Int32) (g4 : Nat → Int64) : Met l yX11_run wc_X11_run ({ frames := 2, cells := 0, slots := 0, locals := 47 }) (va_Pc [.ref h0] (fun U => U.heap.size = sz ∧ va_P (dC, dI) vwCl [(h0, .inr (11, [.ref p0, .ref p1, .ref p2, .ref p3, .ref p4, .ref p5, .ref p6, .ref p7, .int (-1)])), (p6, .inr (4, [.ref o0, .ref o1, .ref o2, .ref o3, .int 0])), (p0, .inr (9, [.ref a1, .ref a2, .ref a3, .ref a4, .ref a5, .ref a6, .int 0, .int 0, .int 0, .int 0, .int 0])), (a2, .inl (cA2, 4002, .inl (g2))), (a3, .inl (cA3, 4002, .inl (g3))), (a4, .inl (cA4, 4002, .inr (.inl (g4))))] U.heap ∧ va_K (dC, dI) vwCl [(cA2, .int), (cA3, .int), (cA4, .long)] U ∧ va_D (fun _ => True) [(h0, .inr (11, [.ref p0, .ref p1, .ref p2, .ref p3, .ref p4, .ref p5, .ref p6, .ref p7, .int (-1)])), (p6, .inr (4, [.ref o0, .ref o1, .ref o2, .ref o3, .int 0])), (p0, .inr (9, [.ref a1, .ref a2, .ref a3, .ref a4, .ref a5, .ref a6, .int 0, .int 0, .int 0, .int 0, .int 0])), (a2, .inl (cA2, 4002, .inl (g2))), (a3, .inl (cA3, 4002, .inl (g3))), (a4, .inl (cA4, 4002, .inr (.inl (g4))))])) (va_Qi (fun (r : Int32) (_ : Unit) => r = 0) (fun _ t => va_P (dC, dI) vwCl [] t.heap ∧ va_K (dC, dI) vwCl [] t ∧ va_D (va_A [(h0, .inr (11, [.ref p0, .ref p1, .ref p2, .ref p3, .ref p4, .ref p5, .ref p6, .ref p7, .int (-1)])), (p6, .inr (4, [.ref o0, .ref o1, .ref o2, .ref o3, .int 0])), (p0, .inr (9, [.ref a1, .ref a2, .ref a3, .ref a4, .ref a5, .ref a6, .int 0, .int 0, .int 0, .int 0, .int 0])), (a2, .inl (cA2, 4002, .inl (g2))), (a3, .inl (cA3, 4002, .inl (g3))), (a4, .inl (cA4, 4002, .inr (.inl (g4))))] sz) []) (va_A [(h0, .inr (11, [.ref p0, .ref p1, .ref p2, .ref p3, .ref p4, .ref p5, .ref p6, .ref p7, .int (-1)])), (p6, .inr (4, [.ref o0, .ref o1, .ref o2, .ref o3, .int 0])), (p0, .inr (9, [.ref a1, .ref a2, .ref a3, .ref a4, .ref a5, .ref a6, .int 0, .int 0, .int 0, .int 0, .int 0])), (a2, .inl (cA2, 4002, .inl (g2))), (a3, .inl (cA3, 4002, .inl (g3))), (a4, .inl (cA4, 4002, .inr (.inl (g4))))] sz)) (0) (0) (va_A [(h0, .inr (11, [.ref p0, .ref p1, .ref p2, .ref p3, .ref p4, .ref p5, .ref p6, .ref p7, .int (-1)])), (p6, .inr (4, [.ref o0, .ref o1, .ref o2, .ref o3, .int 0])), (p0, .inr (9, [.ref a1, .ref a2, .ref a3, .ref a4, .ref a5, .ref a6, .int 0, .int 0, .int 0, .int 0, .int 0])), (a2, .inl (cA2, 4002, .inl (g2))), (a3, .inl (cA3, 4002, .inl (g3))), (a4, .inl (cA4, 4002, .inr (.inl (g4))))] sz) := by
  refine Met.ofW (cc := cX11_run) (maxL := 4) (ret := (some .int)) (by decide) rfl ?_
  intro p e s m args below meth c s₁ B hml hv
  obtain ⟨rfl, hsz, hP, hK, hD0⟩ := hv
  have hx := B.exec
  have hb := B.bytes
  have hr := B.returns
  have hts := atoms_spec (ws := wc_X11_run) B.pre
  have hown : s.vm.findClass RX11 = some m.cls := findClass_of_methodNamed B.named
  have hlocks := B.notSynchronized
  subst hsz
  have hD := hD0.self (sz := s.heap.size)
  generalize hAe : va_A [(h0, .inr (11, [.ref p0, .ref p1, .ref p2, .ref p3, .ref p4, .ref p5, .ref p6, .ref p7, .int (-1)])), (p6, .inr (4, [.ref o0, .ref o1, .ref o2, .ref o3, .int 0])), (p0, .inr (9, [.ref a1, .ref a2, .ref a3, .ref a4, .ref a5, .ref a6, .int 0, .int 0, .int 0, .int 0, .int 0])), (a2, .inl (cA2, 4002, .inl (g2))), (a3, .inl (cA3, 4002, .inl (g3))), (a4, .inl (cA4, 4002, .inr (.inl (g4))))] s.heap.size = A at hD ⊢
  have hA : ∀ q : Nat, s.heap.size ≤ q → A q := fun q h => by rw [← hAe]; exact Or.inr h
  have hS : va_S A s.heap s.heap [] := va_S.rf
  have hl := lv_entry ([.ref h0]) (n := 4) (Nat.le_of_ble_eq_true rfl)
  rw [lg_entry_eq]
  generalize (lg_sl ([.ref h0]) ++ List.replicate (4 - (lg_sl ([.ref h0])).length) Slot.unset).toArray = ls at hl ⊢
  have hl : lv_has ls 4 [(0, .ref h0)] := hl
  refine lv_aload_n hx hb dX11_run_0 rfl (lv_at hl 0 rfl) ?_
  refine va_get (D := (dC, dI)) (ci := 11) (v := .ref p6) (C := RX11) (T := TX11) (N := 9) hx hb hts (by decide +kernel) hown hK hP 0 rfl rfl 6 (by decide) (hts (.fieldLink RX11 62 "ProofBench" "said" "LProofBench$Out;") (by decide +kernel)) (fun _ h9 => h9) rfl dX11_run_1 ?_
  refine lv_iconst (v := 0) hx hb dX11_run_4 (by decide) ?_
  refine va_put (D := (dC, dI)) (ci := 4) (v := .int 0) (ty := .int) (C := RX4) (T := TX4) (N := 5) hx hb hts (by decide +kernel) tyX4 tyX4_ok nmX4 hown hK hP hD hS 1 rfl rfl 4 (by decide) (hts (.fieldLink RX11 81 "ProofBench$Out" "count" "I") (by decide +kernel)) (fun _ h9 => h9) rfl (by decide +kernel) rfl rfl (Nat.le_of_ble_eq_true rfl) dX11_run_5 (fun H locs hP hD hS => ?_)
  have hP : va_P (dC, dI) vwCl [(h0, .inr (11, [.ref p0, .ref p1, .ref p2, .ref p3, .ref p4, .ref p5, .ref p6, .ref p7, .int (-1)])), (p6, .inr (4, [.ref o0, .ref o1, .ref o2, .ref o3, .int 0])), (p0, .inr (9, [.ref a1, .ref a2, .ref a3, .ref a4, .ref a5, .ref a6, .int 0, .int 0, .int 0, .int 0, .int 0])), (a2, .inl (cA2, 4002, .inl (g2))), (a3, .inl (cA3, 4002, .inl (g3))), (a4, .inl (cA4, 4002, .inr (.inl (g4))))] H := hP
  have hD : va_D A [(h0, .inr (11, [.ref p0, .ref p1, .ref p2, .ref p3, .ref p4, .ref p5, .ref p6, .ref p7, .int (-1)])), (p6, .inr (4, [.ref o0, .ref o1, .ref o2, .ref o3, .int 0])), (p0, .inr (9, [.ref a1, .ref a2, .ref a3, .ref a4, .ref a5, .ref a6, .int 0, .int 0, .int 0, .int 0, .int 0])), (a2, .inl (cA2, 4002, .inl (g2))), (a3, .inl (cA3, 4002, .inl (g3))), (a4, .inl (cA4, 4002, .inr (.inl (g4))))] := hD
  refine lv_aload_n hx hb dX11_run_8 rfl (lv_at hl 0 rfl) ?_
  refine va_get (D := (dC, dI)) (ci := 11) (v := .ref p0) (C := RX11) (T := TX11) (N := 9) hx hb hts (by decide +kernel) hown hK hP 0 rfl rfl 0 (by decide) (hts (.fieldLink RX11 10 "ProofBench" "tape" "LProofBench$Tape;") (by decide +kernel)) (fun _ h9 => h9) rfl dX11_run_9 ?_
  have hPc := hP.sub (ws' := [(p0, .inr (9, [.ref a1, .ref a2, .ref a3, .ref a4, .ref a5, .ref a6, .int 0, .int 0, .int 0, .int 0, .int 0])), (a2, .inl (cA2, 4002, .inl (g2))), (a3, .inl (cA3, 4002, .inl (g3))), (a4, .inl (cA4, 4002, .inr (.inl (g4))))]) [2, 3, 4, 5] rfl
  have hDc := hD.sub (ws' := [(p0, .inr (9, [.ref a1, .ref a2, .ref a3, .ref a4, .ref a5, .ref a6, .int 0, .int 0, .int 0, .int 0, .int 0])), (a2, .inl (cA2, 4002, .inl (g2))), (a3, .inl (cA3, 4002, .inl (g3))), (a4, .inl (cA4, 4002, .inr (.inl (g4))))]) [2, 3, 4, 5] (by decide) rfl
  have hKc := hK.sub (tys' := [(cA2, .int), (cA3, .int), (cA4, .long)]) [0, 1, 2] rfl
  have hFc := va_free (wc := [(p0, .inr (9, [.ref a1, .ref a2, .ref a3, .ref a4, .ref a5, .ref a6, .int 0, .int 0, .int 0, .int 0, .int 0])), (a2, .inl (cA2, 4002, .inl (g2))), (a3, .inl (cA3, 4002, .inl (g3))), (a4, .inl (cA4, 4002, .inr (.inl (g4))))]) hD hS hA [2, 3, 4, 5] rfl
  refine va_callv (va_runV (As := []) (rest := []) ⟨hx, hb, hml, hown, hts⟩ (c_scan l dC dI H.size p0 a1 a2 a3 a4 a5 a6 cA2 cA3 cA4 g2 g3 g4) (cwV 0 hts gc_X11_run__X9_scan rfl rfl rfl (by decide +kernel) ⟨Nat.le_of_ble_eq_true rfl, Nat.le_of_ble_eq_true rfl⟩) ⟨fun a U g mk q => by obtain ⟨q0, q1, qP, qK, qD⟩ := q; exact ⟨q0, q1, qP, va_K.moved (u := U) (U := U.calling g mk a) (Vm.Alike.refl U.vm) qK, qD⟩, va_recv hKc hPc (ci := 9) (q0 := 0) rfl rfl, fun U hU hW => ⟨rfl, by rw [hU], by rw [hU]; exact hPc, va_K.moved hW.alike hKc, hDc.weaken (fun _ _ _ _ => trivial)⟩⟩ rfl rfl hl.1 rfl (lv_room (Nat.le_of_ble_eq_true rfl)) dX11_run_12 ⟨(show 0 + 0 ≤ 0 by omega), (show 0 + 0 ≤ 0 by omega)⟩) hS (fun q _ h => hFc q h) hFc (fun u t H1 locs ht hvm hw hB hz1 hk1 hS => ?_)
  obtain ⟨k9, hP1, hK1, hD1, hk9⟩ := hB
  rw [ht] at hP1
  have hK1 := va_K.moved hvm.symm hK1
  obtain ⟨hP, hD⟩ := va_join (wr := [(h0, .inr (11, [.ref p0, .ref p1, .ref p2, .ref p3, .ref p4, .ref p5, .ref p6, .ref p7, .int (-1)])), (p6, .inr (4, [.ref o0, .ref o1, .ref o2, .ref o3, .int 0]))]) (w1 := [(p0, .inr (9, [.ref a1, .ref a2, .ref a3, .ref a4, .ref a5, .ref a6, .int 0, .int 1, .int 0, .int 0, .int 0])), (a2, .inl (cA2, 4002, .inl (k9)))]) hP hD [2, 3, 4, 5] [0, 1] rfl rfl (by decide) (by decide) hk1 hFc hP1 hD1
  have hK := (hK.sub (tys' := [(cA2, .int), (cA3, .int), (cA4, .long)]) [0, 1, 2] rfl).app hK1
  generalize H1 = H at hP hS ⊢
  have hP : va_P (dC, dI) vwCl [(h0, .inr (11, [.ref p0, .ref p1, .ref p2, .ref p3, .ref p4, .ref p5, .ref p6, .ref p7, .int (-1)])), (p6, .inr (4, [.ref o0, .ref o1, .ref o2, .ref o3, .int 0])), (p0, .inr (9, [.ref a1, .ref a2, .ref a3, .ref a4, .ref a5, .ref a6, .int 0, .int 1, .int 0, .int 0, .int 0])), (a2, .inl (cA2, 4002, .inl (k9)))] H := hP
  have hD : va_D A [(h0, .inr (11, [.ref p0, .ref p1, .ref p2, .ref p3, .ref p4, .ref p5, .ref p6, .ref p7, .int (-1)])), (p6, .inr (4, [.ref o0, .ref o1, .ref o2, .ref o3, .int 0])), (p0, .inr (9, [.ref a1, .ref a2, .ref a3, .ref a4, .ref a5, .ref a6, .int 0, .int 1, .int 0, .int 0, .int 0])), (a2, .inl (cA2, 4002, .inl (k9)))] := hD
  have hK : va_K (dC, dI) vwCl [(cA2, .int), (cA3, .int), (cA4, .long), (cA2, .int)] s := hK
  refine W.widen (k := 0) (n := 0) (by omega) (by omega) ?_
  refine lv_iconst (v := 0) hx hb dX11_run_15 (by decide) ?_
  refine lv_istore_n (lv' := [(1, .int 0), (0, .ref h0)]) hx hb dX11_run_16 rfl hl (by decide) rfl (fun ls hl => ?_)
  refine lv_iload_n hx hb dX11_run_17 rfl (lv_at hl 0 rfl) ?_
  refine lv_sipush (v := 4000) hx hb dX11_run_18 (by decide) ?_
  refine lv_icmp_ge (tgt := 160) hx hb dX11_run_21 (by decide) (fun c9 => absurd c9 (by decide)) (fun _ => ?_)
  refine lv_aload_n hx hb dX11_run_24 rfl (lv_at hl 1 rfl) ?_
  refine va_get (D := (dC, dI)) (ci := 11) (v := .ref p0) (C := RX11) (T := TX11) (N := 9) hx hb hts (by decide +kernel) hown hK hP 0 rfl rfl 0 (by decide) (hts (.fieldLink RX11 10 "ProofBench" "tape" "LProofBench$Tape;") (by decide +kernel)) (fun _ h9 => h9) rfl dX11_run_25 ?_
  have hPc := hP.sub (ws' := [(p0, .inr (9, [.ref a1, .ref a2, .ref a3, .ref a4, .ref a5, .ref a6, .int 0, .int 1, .int 0, .int 0, .int 0])), (a2, .inl (cA2, 4002, .inl (k9)))]) [2, 3] rfl
  have hDc := hD.sub (ws' := [(p0, .inr (9, [.ref a1, .ref a2, .ref a3, .ref a4, .ref a5, .ref a6, .int 0, .int 1, .int 0, .int 0, .int 0])), (a2, .inl (cA2, 4002, .inl (k9)))]) [2, 3] (by decide) rfl
  have hKc := hK.sub (tys' := [(cA2, .int)]) [0] rfl
  have hFc := va_free (wc := [(p0, .inr (9, [.ref a1, .ref a2, .ref a3, .ref a4, .ref a5, .ref a6, .int 0, .int 1, .int 0, .int 0, .int 0])), (a2, .inl (cA2, 4002, .inl (k9)))]) hD hS hA [2, 3] rfl
  refine va_calli (va_runV (As := []) (rest := []) ⟨hx, hb, hml, hown, hts⟩ (c_whole l dC dI H.size p0 a1 a2 a3 a4 a5 a6 cA2 k9 hk9) (cwV 0 hts gc_X11_run__X9_whole rfl rfl rfl (by decide +kernel) ⟨Nat.le_of_ble_eq_true rfl, Nat.le_of_ble_eq_true rfl⟩) ⟨fun a U g mk q => by obtain ⟨q0, q1, qP, qK, qD⟩ := q; exact ⟨q0, q1, qP, va_K.moved (u := U) (U := U.calling g mk a) (Vm.Alike.refl U.vm) qK, qD⟩, va_recv hKc hPc (ci := 9) (q0 := 0) rfl rfl, fun U hU hW => ⟨rfl, by rw [hU], by rw [hU]; exact hPc, va_K.moved hW.alike hKc, hDc.weaken (fun _ _ _ _ => trivial)⟩⟩ rfl rfl hl.1 rfl (lv_room (Nat.le_of_ble_eq_true rfl)) dX11_run_28 ⟨(show 0 + 0 ≤ 0 by omega), (show 0 + 0 ≤ 0 by omega)⟩) hS (fun q _ h => hFc q h) hFc (fun r0 u t H1 locs ht hvm hw hB hz1 hk1 hS => ?_)
  obtain ⟨hP1, hK1, hD1⟩ := hB
  rw [ht] at hP1
  have hK1 := va_K.moved hvm.symm hK1
  obtain ⟨hP, hD⟩ := va_join (wr := [(h0, .inr (11, [.ref p0, .ref p1, .ref p2, .ref p3, .ref p4, .ref p5, .ref p6, .ref p7, .int (-1)])), (p6, .inr (4, [.ref o0, .ref o1, .ref o2, .ref o3, .int 0]))]) (w1 := [(p0, .inr (9, [.ref a1, .ref a2, .ref a3, .ref a4, .ref a5, .ref a6, .int 0, .int 1, .int 0, .int 0, .int (-1)])), (a2, .inl (cA2, 4002, .inl (k9)))]) hP hD [2, 3] [0, 1] rfl rfl (by decide) (by decide) hk1 hFc hP1 hD1
  have hK := (hK.sub (tys' := [(cA2, .int), (cA3, .int), (cA4, .long), (cA2, .int)]) [0, 1, 2, 3] rfl).app hK1
  generalize H1 = H at hP hS ⊢
  have hP : va_P (dC, dI) vwCl [(h0, .inr (11, [.ref p0, .ref p1, .ref p2, .ref p3, .ref p4, .ref p5, .ref p6, .ref p7, .int (-1)])), (p6, .inr (4, [.ref o0, .ref o1, .ref o2, .ref o3, .int 0])), (p0, .inr (9, [.ref a1, .ref a2, .ref a3, .ref a4, .ref a5, .ref a6, .int 0, .int 1, .int 0, .int 0, .int (-1)])), (a2, .inl (cA2, 4002, .inl (k9)))] H := hP
  have hD : va_D A [(h0, .inr (11, [.ref p0, .ref p1, .ref p2, .ref p3, .ref p4, .ref p5, .ref p6, .ref p7, .int (-1)])), (p6, .inr (4, [.ref o0, .ref o1, .ref o2, .ref o3, .int 0])), (p0, .inr (9, [.ref a1, .ref a2, .ref a3, .ref a4, .ref a5, .ref a6, .int 0, .int 1, .int 0, .int 0, .int (-1)])), (a2, .inl (cA2, 4002, .inl (k9)))] := hD
  have hK : va_K (dC, dI) vwCl [(cA2, .int), (cA3, .int), (cA4, .long), (cA2, .int), (cA2, .int)] s := hK
  refine W.widen (k := 0) (n := 0) (by omega) (by omega) ?_
  subst hw
  refine lv_if_eq (tgt := 160) hx hb dX11_run_31 (by decide) (fun _ => ?_) (fun c9 => absurd c9 (by decide))
  refine lv_aload_n hx hb dX11_run_160 rfl (lv_at hl 1 rfl) ?_
  refine lv_aload_n hx hb dX11_run_161 rfl (lv_at hl 1 rfl) ?_
  refine va_get (D := (dC, dI)) (ci := 11) (v := .ref p0) (C := RX11) (T := TX11) (N := 9) hx hb hts (by decide +kernel) hown hK hP 0 rfl rfl 0 (by decide) (hts (.fieldLink RX11 10 "ProofBench" "tape" "LProofBench$Tape;") (by decide +kernel)) (fun _ h9 => h9) rfl dX11_run_162 ?_
  refine va_get (D := (dC, dI)) (ci := 9) (v := .int (-1)) (C := RX9) (T := TX9) (N := 11) hx hb hts (by decide +kernel) hown hK hP 2 rfl rfl 10 (by decide) (hts (.fieldLink RX11 113 "ProofBench$Tape" "wrongAt" "I") (by decide +kernel)) (fun _ h9 => h9) rfl dX11_run_165 ?_
  refine va_put (D := (dC, dI)) (ci := 11) (v := .int (-1)) (ty := .int) (C := RX11) (T := TX11) (N := 9) hx hb hts (by decide +kernel) tyX11 tyX11_ok nmX11 hown hK hP hD hS 0 rfl rfl 8 (by decide) (hts (.fieldLink RX11 70 "ProofBench" "wrongAt" "I") (by decide +kernel)) (fun _ h9 => h9) rfl (by decide +kernel) rfl rfl (Nat.le_of_ble_eq_true rfl) dX11_run_168 (fun H locs hP hD hS => ?_)
  have hP : va_P (dC, dI) vwCl [(h0, .inr (11, [.ref p0, .ref p1, .ref p2, .ref p3, .ref p4, .ref p5, .ref p6, .ref p7, .int (-1)])), (p6, .inr (4, [.ref o0, .ref o1, .ref o2, .ref o3, .int 0])), (p0, .inr (9, [.ref a1, .ref a2, .ref a3, .ref a4, .ref a5, .ref a6, .int 0, .int 1, .int 0, .int 0, .int (-1)])), (a2, .inl (cA2, 4002, .inl (k9)))] H := hP
  have hD : va_D A [(h0, .inr (11, [.ref p0, .ref p1, .ref p2, .ref p3, .ref p4, .ref p5, .ref p6, .ref p7, .int (-1)])), (p6, .inr (4, [.ref o0, .ref o1, .ref o2, .ref o3, .int 0])), (p0, .inr (9, [.ref a1, .ref a2, .ref a3, .ref a4, .ref a5, .ref a6, .int 0, .int 1, .int 0, .int 0, .int (-1)])), (a2, .inl (cA2, 4002, .inl (k9)))] := hD
  refine lv_aload_n hx hb dX11_run_171 rfl (lv_at hl 1 rfl) ?_
  refine va_get (D := (dC, dI)) (ci := 11) (v := .ref p0) (C := RX11) (T := TX11) (N := 9) hx hb hts (by decide +kernel) hown hK hP 0 rfl rfl 0 (by decide) (hts (.fieldLink RX11 10 "ProofBench" "tape" "LProofBench$Tape;") (by decide +kernel)) (fun _ h9 => h9) rfl dX11_run_172 ?_
  refine lv_iconst (v := 0) hx hb dX11_run_175 (by decide) ?_
  refine va_put (D := (dC, dI)) (ci := 9) (v := .int 0) (ty := .int) (C := RX9) (T := TX9) (N := 11) hx hb hts (by decide +kernel) tyX9 tyX9_ok nmX9 hown hK hP hD hS 2 rfl rfl 6 (by decide) (hts (.fieldLink RX11 74 "ProofBench$Tape" "length" "I") (by decide +kernel)) (fun _ h9 => h9) rfl (by decide +kernel) rfl rfl (Nat.le_of_ble_eq_true rfl) dX11_run_176 (fun H locs hP hD hS => ?_)
  have hP : va_P (dC, dI) vwCl [(h0, .inr (11, [.ref p0, .ref p1, .ref p2, .ref p3, .ref p4, .ref p5, .ref p6, .ref p7, .int (-1)])), (p6, .inr (4, [.ref o0, .ref o1, .ref o2, .ref o3, .int 0])), (p0, .inr (9, [.ref a1, .ref a2, .ref a3, .ref a4, .ref a5, .ref a6, .int 0, .int 1, .int 0, .int 0, .int (-1)])), (a2, .inl (cA2, 4002, .inl (k9)))] H := hP
  have hD : va_D A [(h0, .inr (11, [.ref p0, .ref p1, .ref p2, .ref p3, .ref p4, .ref p5, .ref p6, .ref p7, .int (-1)])), (p6, .inr (4, [.ref o0, .ref o1, .ref o2, .ref o3, .int 0])), (p0, .inr (9, [.ref a1, .ref a2, .ref a3, .ref a4, .ref a5, .ref a6, .int 0, .int 1, .int 0, .int 0, .int (-1)])), (a2, .inl (cA2, 4002, .inl (k9)))] := hD
  refine lv_iload_n hx hb dX11_run_179 rfl (lv_at hl 0 rfl) ?_
  have hP9 := hP.sub (ws' := []) [] rfl
  have hD9 := hD.sub (ws' := []) [] (by decide) rfl
  have hK9 := hK.sub (tys' := []) [] rfl
  refine W.widen (k := 0) (n := 0) (by omega) (by omega) ?_
  exact W.iret (v := 0) hx hb hr (fun t ht hW => ⟨⟨0, (), rfl, rfl, by rw [ht]; exact hP9, va_K.moved hW.alike hK9, hD9⟩, hS.F ht⟩) hS.2.2 dX11_run_180
def wc_X9_take : List Cond := .code yX9_take cX9_take 4 none :: ([Cond.fieldLink RX9 44 "ProofBench$Tape" "length" "I", Cond.fieldLink RX9 9 "ProofBench$Tape" "bytes" "[B"] ++ wsX90)
set_option maxHeartbeats 1000000 in
set_option maxRecDepth 100000 in
/-- take(x): eight bytes behind 0 -/
theorem c_take_0 (l : Launch) (dC : Nat → ClassId) (dI : Nat → Nat → Nat) (sz : Nat) (h0 a1 a2 a3 a4 a5 a6 : Nat) (cA1 : ClassId) (g1 : Nat → Int32) (x : Int64) : Met l yX9_take wc_X9_take ({ frames := 0, cells := 0, slots := 0, locals := 0 }) (va_Pc [.ref h0, .long x] (fun U => U.heap.size = sz ∧ va_P (dC, dI) vwCl [(h0, .inr (9, [.ref a1, .ref a2, .ref a3, .ref a4, .ref a5, .ref a6, .int 0, .int 0, .int 0, .int 0, .int 0])), (a1, .inl (cA1, 4000, .inl (g1)))] U.heap ∧ va_K (dC, dI) vwCl [(cA1, .byte)] U ∧ va_D (fun _ => True) [(h0, .inr (9, [.ref a1, .ref a2, .ref a3, .ref a4, .ref a5, .ref a6, .int 0, .int 0, .int 0, .int 0, .int 0])), (a1, .inl (cA1, 4000, .inl (g1)))])) (va_Qv (fun _ : Unit => True) (fun _ t => ∃ (k9 : Nat → Int32), va_P (dC, dI) vwCl [(h0, .inr (9, [.ref a1, .ref a2, .ref a3, .ref a4, .ref a5, .ref a6, .int 8, .int 0, .int 0, .int 0, .int 0])), (a1, .inl (cA1, 4000, .inl (k9)))] t.heap ∧ va_K (dC, dI) vwCl [(cA1, .byte)] t ∧ va_D (va_A [(h0, .inr (9, [.ref a1, .ref a2, .ref a3, .ref a4, .ref a5, .ref a6, .int 0, .int 0, .int 0, .int 0, .int 0])), (a1, .inl (cA1, 4000, .inl (g1)))] sz) [(h0, .inr (9, [.ref a1, .ref a2, .ref a3, .ref a4, .ref a5, .ref a6, .int 8, .int 0, .int 0, .int 0, .int 0])), (a1, .inl (cA1, 4000, .inl (k9)))]) (va_A [(h0, .inr (9, [.ref a1, .ref a2, .ref a3, .ref a4, .ref a5, .ref a6, .int 0, .int 0, .int 0, .int 0, .int 0])), (a1, .inl (cA1, 4000, .inl (g1)))] sz)) (0) (0) (va_A [(h0, .inr (9, [.ref a1, .ref a2, .ref a3, .ref a4, .ref a5, .ref a6, .int 0, .int 0, .int 0, .int 0, .int 0])), (a1, .inl (cA1, 4000, .inl (g1)))] sz) := by
  refine Met.ofW (cc := cX9_take) (maxL := 4) (ret := none) (by decide) rfl ?_
  intro p e s m args below meth c s₁ B hml hv
  obtain ⟨rfl, hsz, hP, hK, hD0⟩ := hv
  have hx := B.exec
  have hb := B.bytes
  have hr := B.returns
  have hts := atoms_spec (ws := wc_X9_take) B.pre
  have hown : s.vm.findClass RX9 = some m.cls := findClass_of_methodNamed B.named
  have hlocks := B.notSynchronized
  subst hsz
  have hD := hD0.self (sz := s.heap.size)
  generalize hAe : va_A [(h0, .inr (9, [.ref a1, .ref a2, .ref a3, .ref a4, .ref a5, .ref a6, .int 0, .int 0, .int 0, .int 0, .int 0])), (a1, .inl (cA1, 4000, .inl (g1)))] s.heap.size = A at hD ⊢
  have hA : ∀ q : Nat, s.heap.size ≤ q → A q := fun q h => by rw [← hAe]; exact Or.inr h
  have hS : va_S A s.heap s.heap [] := va_S.rf
  have hl := lv_entry ([.ref h0, .long x]) (n := 4) (Nat.le_of_ble_eq_true rfl)
  rw [lg_entry_eq]
  generalize (lg_sl ([.ref h0, .long x]) ++ List.replicate (4 - (lg_sl ([.ref h0, .long x])).length) Slot.unset).toArray = ls at hl ⊢
  have hl : lv_has ls 4 [(0, .ref h0), (1, .long x)] := hl
  refine lv_bipush (v := 56) hx hb dX9_take_0 (by decide) ?_
  refine lv_istore_n (lv' := [(3, .int 56), (0, .ref h0), (1, .long x)]) hx hb dX9_take_2 rfl hl (by decide) rfl (fun ls hl => ?_)
  refine lv_iload_n hx hb dX9_take_3 rfl (lv_at hl 0 rfl) ?_
  refine lv_if_lt (tgt := 47) hx hb dX9_take_4 (by decide) (fun c9 => absurd c9 (by decide)) (fun _ => ?_)
  refine lv_aload_n hx hb dX9_take_7 rfl (lv_at hl 1 rfl) ?_
  refine va_get (D := (dC, dI)) (ci := 9) (v := .int 0) (C := RX9) (T := TX9) (N := 11) hx hb hts (by decide +kernel) hown hK hP 0 rfl rfl 6 (by decide) (hts (.fieldLink RX9 44 "ProofBench$Tape" "length" "I") (by decide +kernel)) (fun _ h9 => h9) rfl dX9_take_8 ?_
  refine lv_sipush (v := 4000) hx hb dX9_take_11 (by decide) ?_
  refine lv_icmp_ge (tgt := 41) hx hb dX9_take_14 (by decide) (fun c9 => absurd c9 (by decide)) (fun _ => ?_)
  refine lv_aload_n hx hb dX9_take_17 rfl (lv_at hl 1 rfl) ?_
  refine va_get (D := (dC, dI)) (ci := 9) (v := .ref a1) (C := RX9) (T := TX9) (N := 11) hx hb hts (by decide +kernel) hown hK hP 0 rfl rfl 0 (by decide) (hts (.fieldLink RX9 9 "ProofBench$Tape" "bytes" "[B") (by decide +kernel)) (fun _ h9 => h9) rfl dX9_take_18 ?_
  refine lv_aload_n hx hb dX9_take_21 rfl (lv_at hl 1 rfl) ?_
  refine va_get (D := (dC, dI)) (ci := 9) (v := .int 0) (C := RX9) (T := TX9) (N := 11) hx hb hts (by decide +kernel) hown hK hP 0 rfl rfl 6 (by decide) (hts (.fieldLink RX9 44 "ProofBench$Tape" "length" "I") (by decide +kernel)) (fun _ h9 => h9) rfl dX9_take_22 ?_
  refine lv_lload_n hx hb dX9_take_25 rfl (lv_at hl 2 rfl) ?_
  refine lv_iload_n hx hb dX9_take_26 rfl (lv_at hl 0 rfl) ?_
  refine lv_lshr hx hb dX9_take_27 rfl ?_
  refine lv_topl (fun y_1 ey_1 => ?_)
  refine lv_l2i hx hb dX9_take_28 rfl ?_
  refine lv_topi (fun r_2 er_2 => ?_)
  refine lv_i2b hx hb dX9_take_29 rfl ?_
  refine lv_topi (fun r_3 er_3 => ?_)
  refine va_bast hx hb hK hP hD hS 1 0 rfl rfl (show vp_in (0) 4000 from by unfold vp_in; decide) dX9_take_30 (fun H locs hP hD hS => ?_)
  obtain ⟨f_4, hP, hD⟩ : ∃ f9 : Nat → Int32, va_P (dC, dI) vwCl [(h0, .inr (9, [.ref a1, .ref a2, .ref a3, .ref a4, .ref a5, .ref a6, .int 0, .int 0, .int 0, .int 0, .int 0])), (a1, .inl (cA1, 4000, .inl (f9)))] H ∧ va_D A [(h0, .inr (9, [.ref a1, .ref a2, .ref a3, .ref a4, .ref a5, .ref a6, .int 0, .int 0, .int 0, .int 0, .int 0])), (a1, .inl (cA1, 4000, .inl (f9)))] := ⟨_, hP, hD⟩
  refine lv_aload_n hx hb dX9_take_31 rfl (lv_at hl 1 rfl) ?_
  refine lv_dup hx hb dX9_take_32 rfl ?_
  refine va_get (D := (dC, dI)) (ci := 9) (v := .int 0) (C := RX9) (T := TX9) (N := 11) hx hb hts (by decide +kernel) hown hK hP 0 rfl rfl 6 (by decide) (hts (.fieldLink RX9 44 "ProofBench$Tape" "length" "I") (by decide +kernel)) (fun _ h9 => h9) rfl dX9_take_33 ?_
  refine lv_iconst (v := 1) hx hb dX9_take_36 (by decide) ?_
  refine lv_iadd hx hb dX9_take_37 ?_
  refine lv_topi (fun z_5 e9 => ?_)
  obtain rfl : z_5 = 1 := by rw [e9]; decide
  refine va_put (D := (dC, dI)) (ci := 9) (v := .int 1) (ty := .int) (C := RX9) (T := TX9) (N := 11) hx hb hts (by decide +kernel) tyX9 tyX9_ok nmX9 hown hK hP hD hS 0 rfl rfl 6 (by decide) (hts (.fieldLink RX9 44 "ProofBench$Tape" "length" "I") (by decide +kernel)) (fun _ h9 => h9) rfl (by decide +kernel) rfl rfl (Nat.le_of_ble_eq_true rfl) dX9_take_38 (fun H locs hP hD hS => ?_)
  have hP : va_P (dC, dI) vwCl [(h0, .inr (9, [.ref a1, .ref a2, .ref a3, .ref a4, .ref a5, .ref a6, .int 1, .int 0, .int 0, .int 0, .int 0])), (a1, .inl (cA1, 4000, .inl (f_4)))] H := hP
  have hD : va_D A [(h0, .inr (9, [.ref a1, .ref a2, .ref a3, .ref a4, .ref a5, .ref a6, .int 1, .int 0, .int 0, .int 0, .int 0])), (a1, .inl (cA1, 4000, .inl (f_4)))] := hD
  refine lv_iinc (v := 48) (lv' := [(3, .int 48), (0, .ref h0), (1, .long x)]) hx hb dX9_take_41 hl (k := 0) rfl (by decide) (by decide) rfl (fun ls hl => ?_)
  refine lv_goto (tgt := 3) hx hb dX9_take_44 (by decide) ?_
  refine lv_iload_n hx hb dX9_take_3 rfl (lv_at hl 0 rfl) ?_
  refine lv_if_lt (tgt := 47) hx hb dX9_take_4 (by decide) (fun c9 => absurd c9 (by decide)) (fun _ => ?_)
  refine lv_aload_n hx hb dX9_take_7 rfl (lv_at hl 1 rfl) ?_
  refine va_get (D := (dC, dI)) (ci := 9) (v := .int 1) (C := RX9) (T := TX9) (N := 11) hx hb hts (by decide +kernel) hown hK hP 0 rfl rfl 6 (by decide) (hts (.fieldLink RX9 44 "ProofBench$Tape" "length" "I") (by decide +kernel)) (fun _ h9 => h9) rfl dX9_take_8 ?_
  refine lv_sipush (v := 4000) hx hb dX9_take_11 (by decide) ?_
  refine lv_icmp_ge (tgt := 41) hx hb dX9_take_14 (by decide) (fun c9 => absurd c9 (by decide)) (fun _ => ?_)
  refine lv_aload_n hx hb dX9_take_17 rfl (lv_at hl 1 rfl) ?_
  refine va_get (D := (dC, dI)) (ci := 9) (v := .ref a1) (C := RX9) (T := TX9) (N := 11) hx hb hts (by decide +kernel) hown hK hP 0 rfl rfl 0 (by decide) (hts (.fieldLink RX9 9 "ProofBench$Tape" "bytes" "[B") (by decide +kernel)) (fun _ h9 => h9) rfl dX9_take_18 ?_
  refine lv_aload_n hx hb dX9_take_21 rfl (lv_at hl 1 rfl) ?_
  refine va_get (D := (dC, dI)) (ci := 9) (v := .int 1) (C := RX9) (T := TX9) (N := 11) hx hb hts (by decide +kernel) hown hK hP 0 rfl rfl 6 (by decide) (hts (.fieldLink RX9 44 "ProofBench$Tape" "length" "I") (by decide +kernel)) (fun _ h9 => h9) rfl dX9_take_22 ?_
  refine lv_lload_n hx hb dX9_take_25 rfl (lv_at hl 2 rfl) ?_
  refine lv_iload_n hx hb dX9_take_26 rfl (lv_at hl 0 rfl) ?_
  refine lv_lshr hx hb dX9_take_27 rfl ?_
  refine lv_topl (fun y_6 ey_6 => ?_)
  refine lv_l2i hx hb dX9_take_28 rfl ?_
  refine lv_topi (fun r_7 er_7 => ?_)
  refine lv_i2b hx hb dX9_take_29 rfl ?_
  refine lv_topi (fun r_8 er_8 => ?_)
  refine va_bast hx hb hK hP hD hS 1 0 rfl rfl (show vp_in (1) 4000 from by unfold vp_in; decide) dX9_take_30 (fun H locs hP hD hS => ?_)
  obtain ⟨f_9, hP, hD⟩ : ∃ f9 : Nat → Int32, va_P (dC, dI) vwCl [(h0, .inr (9, [.ref a1, .ref a2, .ref a3, .ref a4, .ref a5, .ref a6, .int 1, .int 0, .int 0, .int 0, .int 0])), (a1, .inl (cA1, 4000, .inl (f9)))] H ∧ va_D A [(h0, .inr (9, [.ref a1, .ref a2, .ref a3, .ref a4, .ref a5, .ref a6, .int 1, .int 0, .int 0, .int 0, .int 0])), (a1, .inl (cA1, 4000, .inl (f9)))] := ⟨_, hP, hD⟩
  refine lv_aload_n hx hb dX9_take_31 rfl (lv_at hl 1 rfl) ?_
  refine lv_dup hx hb dX9_take_32 rfl ?_
  refine va_get (D := (dC, dI)) (ci := 9) (v := .int 1) (C := RX9) (T := TX9) (N := 11) hx hb hts (by decide +kernel) hown hK hP 0 rfl rfl 6 (by decide) (hts (.fieldLink RX9 44 "ProofBench$Tape" "length" "I") (by decide +kernel)) (fun _ h9 => h9) rfl dX9_take_33 ?_
  refine lv_iconst (v := 1) hx hb dX9_take_36 (by decide) ?_
  refine lv_iadd hx hb dX9_take_37 ?_
  refine lv_topi (fun z_10 e9 => ?_)
  obtain rfl : z_10 = 2 := by rw [e9]; decide
  refine va_put (D := (dC, dI)) (ci := 9) (v := .int 2) (ty := .int) (C := RX9) (T := TX9) (N := 11) hx hb hts (by decide +kernel) tyX9 tyX9_ok nmX9 hown hK hP hD hS 0 rfl rfl 6 (by decide) (hts (.fieldLink RX9 44 "ProofBench$Tape" "length" "I") (by decide +kernel)) (fun _ h9 => h9) rfl (by decide +kernel) rfl rfl (Nat.le_of_ble_eq_true rfl) dX9_take_38 (fun H locs hP hD hS => ?_)
  have hP : va_P (dC, dI) vwCl [(h0, .inr (9, [.ref a1, .ref a2, .ref a3, .ref a4, .ref a5, .ref a6, .int 2, .int 0, .int 0, .int 0, .int 0])), (a1, .inl (cA1, 4000, .inl (f_9)))] H := hP
  have hD : va_D A [(h0, .inr (9, [.ref a1, .ref a2, .ref a3, .ref a4, .ref a5, .ref a6, .int 2, .int 0, .int 0, .int 0, .int 0])), (a1, .inl (cA1, 4000, .inl (f_9)))] := hD
  refine lv_iinc (v := 40) (lv' := [(3, .int 40), (0, .ref h0), (1, .long x)]) hx hb dX9_take_41 hl (k := 0) rfl (by decide) (by decide) rfl (fun ls hl => ?_)
  refine lv_goto (tgt := 3) hx hb dX9_take_44 (by decide) ?_
  refine lv_iload_n hx hb dX9_take_3 rfl (lv_at hl 0 rfl) ?_
  refine lv_if_lt (tgt := 47) hx hb dX9_take_4 (by decide) (fun c9 => absurd c9 (by decide)) (fun _ => ?_)
  refine lv_aload_n hx hb dX9_take_7 rfl (lv_at hl 1 rfl) ?_
  refine va_get (D := (dC, dI)) (ci := 9) (v := .int 2) (C := RX9) (T := TX9) (N := 11) hx hb hts (by decide +kernel) hown hK hP 0 rfl rfl 6 (by decide) (hts (.fieldLink RX9 44 "ProofBench$Tape" "length" "I") (by decide +kernel)) (fun _ h9 => h9) rfl dX9_take_8 ?_
  refine lv_sipush (v := 4000) hx hb dX9_take_11 (by decide) ?_
  refine lv_icmp_ge (tgt := 41) hx hb dX9_take_14 (by decide) (fun c9 => absurd c9 (by decide)) (fun _ => ?_)
  refine lv_aload_n hx hb dX9_take_17 rfl (lv_at hl 1 rfl) ?_
  refine va_get (D := (dC, dI)) (ci := 9) (v := .ref a1) (C := RX9) (T := TX9) (N := 11) hx hb hts (by decide +kernel) hown hK hP 0 rfl rfl 0 (by decide) (hts (.fieldLink RX9 9 "ProofBench$Tape" "bytes" "[B") (by decide +kernel)) (fun _ h9 => h9) rfl dX9_take_18 ?_
  refine lv_aload_n hx hb dX9_take_21 rfl (lv_at hl 1 rfl) ?_
  refine va_get (D := (dC, dI)) (ci := 9) (v := .int 2) (C := RX9) (T := TX9) (N := 11) hx hb hts (by decide +kernel) hown hK hP 0 rfl rfl 6 (by decide) (hts (.fieldLink RX9 44 "ProofBench$Tape" "length" "I") (by decide +kernel)) (fun _ h9 => h9) rfl dX9_take_22 ?_
  refine lv_lload_n hx hb dX9_take_25 rfl (lv_at hl 2 rfl) ?_
  refine lv_iload_n hx hb dX9_take_26 rfl (lv_at hl 0 rfl) ?_
  refine lv_lshr hx hb dX9_take_27 rfl ?_
  refine lv_topl (fun y_11 ey_11 => ?_)
  refine lv_l2i hx hb dX9_take_28 rfl ?_
  refine lv_topi (fun r_12 er_12 => ?_)
  refine lv_i2b hx hb dX9_take_29 rfl ?_
  refine lv_topi (fun r_13 er_13 => ?_)
  refine va_bast hx hb hK hP hD hS 1 0 rfl rfl (show vp_in (2) 4000 from by unfold vp_in; decide) dX9_take_30 (fun H locs hP hD hS => ?_)
  obtain ⟨f_14, hP, hD⟩ : ∃ f9 : Nat → Int32, va_P (dC, dI) vwCl [(h0, .inr (9, [.ref a1, .ref a2, .ref a3, .ref a4, .ref a5, .ref a6, .int 2, .int 0, .int 0, .int 0, .int 0])), (a1, .inl (cA1, 4000, .inl (f9)))] H ∧ va_D A [(h0, .inr (9, [.ref a1, .ref a2, .ref a3, .ref a4, .ref a5, .ref a6, .int 2, .int 0, .int 0, .int 0, .int 0])), (a1, .inl (cA1, 4000, .inl (f9)))] := ⟨_, hP, hD⟩
  refine lv_aload_n hx hb dX9_take_31 rfl (lv_at hl 1 rfl) ?_
  refine lv_dup hx hb dX9_take_32 rfl ?_
  refine va_get (D := (dC, dI)) (ci := 9) (v := .int 2) (C := RX9) (T := TX9) (N := 11) hx hb hts (by decide +kernel) hown hK hP 0 rfl rfl 6 (by decide) (hts (.fieldLink RX9 44 "ProofBench$Tape" "length" "I") (by decide +kernel)) (fun _ h9 => h9) rfl dX9_take_33 ?_
  refine lv_iconst (v := 1) hx hb dX9_take_36 (by decide) ?_
  refine lv_iadd hx hb dX9_take_37 ?_
  refine lv_topi (fun z_15 e9 => ?_)
  obtain rfl : z_15 = 3 := by rw [e9]; decide
  refine va_put (D := (dC, dI)) (ci := 9) (v := .int 3) (ty := .int) (C := RX9) (T := TX9) (N := 11) hx hb hts (by decide +kernel) tyX9 tyX9_ok nmX9 hown hK hP hD hS 0 rfl rfl 6 (by decide) (hts (.fieldLink RX9 44 "ProofBench$Tape" "length" "I") (by decide +kernel)) (fun _ h9 => h9) rfl (by decide +kernel) rfl rfl (Nat.le_of_ble_eq_true rfl) dX9_take_38 (fun H locs hP hD hS => ?_)
  have hP : va_P (dC, dI) vwCl [(h0, .inr (9, [.ref a1, .ref a2, .ref a3, .ref a4, .ref a5, .ref a6, .int 3, .int 0, .int 0, .int 0, .int 0])), (a1, .inl (cA1, 4000, .inl (f_14)))] H := hP
  have hD : va_D A [(h0, .inr (9, [.ref a1, .ref a2, .ref a3, .ref a4, .ref a5, .ref a6, .int 3, .int 0, .int 0, .int 0, .int 0])), (a1, .inl (cA1, 4000, .inl (f_14)))] := hD
  refine lv_iinc (v := 32) (lv' := [(3, .int 32), (0, .ref h0), (1, .long x)]) hx hb dX9_take_41 hl (k := 0) rfl (by decide) (by decide) rfl (fun ls hl => ?_)
  refine lv_goto (tgt := 3) hx hb dX9_take_44 (by decide) ?_
  refine lv_iload_n hx hb dX9_take_3 rfl (lv_at hl 0 rfl) ?_
  refine lv_if_lt (tgt := 47) hx hb dX9_take_4 (by decide) (fun c9 => absurd c9 (by decide)) (fun _ => ?_)
  refine lv_aload_n hx hb dX9_take_7 rfl (lv_at hl 1 rfl) ?_
  refine va_get (D := (dC, dI)) (ci := 9) (v := .int 3) (C := RX9) (T := TX9) (N := 11) hx hb hts (by decide +kernel) hown hK hP 0 rfl rfl 6 (by decide) (hts (.fieldLink RX9 44 "ProofBench$Tape" "length" "I") (by decide +kernel)) (fun _ h9 => h9) rfl dX9_take_8 ?_
  refine lv_sipush (v := 4000) hx hb dX9_take_11 (by decide) ?_
  refine lv_icmp_ge (tgt := 41) hx hb dX9_take_14 (by decide) (fun c9 => absurd c9 (by decide)) (fun _ => ?_)
  refine lv_aload_n hx hb dX9_take_17 rfl (lv_at hl 1 rfl) ?_
  refine va_get (D := (dC, dI)) (ci := 9) (v := .ref a1) (C := RX9) (T := TX9) (N := 11) hx hb hts (by decide +kernel) hown hK hP 0 rfl rfl 0 (by decide) (hts (.fieldLink RX9 9 "ProofBench$Tape" "bytes" "[B") (by decide +kernel)) (fun _ h9 => h9) rfl dX9_take_18 ?_
  refine lv_aload_n hx hb dX9_take_21 rfl (lv_at hl 1 rfl) ?_
  refine va_get (D := (dC, dI)) (ci := 9) (v := .int 3) (C := RX9) (T := TX9) (N := 11) hx hb hts (by decide +kernel) hown hK hP 0 rfl rfl 6 (by decide) (hts (.fieldLink RX9 44 "ProofBench$Tape" "length" "I") (by decide +kernel)) (fun _ h9 => h9) rfl dX9_take_22 ?_
  refine lv_lload_n hx hb dX9_take_25 rfl (lv_at hl 2 rfl) ?_
  refine lv_iload_n hx hb dX9_take_26 rfl (lv_at hl 0 rfl) ?_
  refine lv_lshr hx hb dX9_take_27 rfl ?_
  refine lv_topl (fun y_16 ey_16 => ?_)
  refine lv_l2i hx hb dX9_take_28 rfl ?_
  refine lv_topi (fun r_17 er_17 => ?_)
  refine lv_i2b hx hb dX9_take_29 rfl ?_
  refine lv_topi (fun r_18 er_18 => ?_)
  refine va_bast hx hb hK hP hD hS 1 0 rfl rfl (show vp_in (3) 4000 from by unfold vp_in; decide) dX9_take_30 (fun H locs hP hD hS => ?_)
  obtain ⟨f_19, hP, hD⟩ : ∃ f9 : Nat → Int32, va_P (dC, dI) vwCl [(h0, .inr (9, [.ref a1, .ref a2, .ref a3, .ref a4, .ref a5, .ref a6, .int 3, .int 0, .int 0, .int 0, .int 0])), (a1, .inl (cA1, 4000, .inl (f9)))] H ∧ va_D A [(h0, .inr (9, [.ref a1, .ref a2, .ref a3, .ref a4, .ref a5, .ref a6, .int 3, .int 0, .int 0, .int 0, .int 0])), (a1, .inl (cA1, 4000, .inl (f9)))] := ⟨_, hP, hD⟩
  refine lv_aload_n hx hb dX9_take_31 rfl (lv_at hl 1 rfl) ?_
  refine lv_dup hx hb dX9_take_32 rfl ?_
  refine va_get (D := (dC, dI)) (ci := 9) (v := .int 3) (C := RX9) (T := TX9) (N := 11) hx hb hts (by decide +kernel) hown hK hP 0 rfl rfl 6 (by decide) (hts (.fieldLink RX9 44 "ProofBench$Tape" "length" "I") (by decide +kernel)) (fun _ h9 => h9) rfl dX9_take_33 ?_
  refine lv_iconst (v := 1) hx hb dX9_take_36 (by decide) ?_
  refine lv_iadd hx hb dX9_take_37 ?_
  refine lv_topi (fun z_20 e9 => ?_)
  obtain rfl : z_20 = 4 := by rw [e9]; decide
  refine va_put (D := (dC, dI)) (ci := 9) (v := .int 4) (ty := .int) (C := RX9) (T := TX9) (N := 11) hx hb hts (by decide +kernel) tyX9 tyX9_ok nmX9 hown hK hP hD hS 0 rfl rfl 6 (by decide) (hts (.fieldLink RX9 44 "ProofBench$Tape" "length" "I") (by decide +kernel)) (fun _ h9 => h9) rfl (by decide +kernel) rfl rfl (Nat.le_of_ble_eq_true rfl) dX9_take_38 (fun H locs hP hD hS => ?_)
  have hP : va_P (dC, dI) vwCl [(h0, .inr (9, [.ref a1, .ref a2, .ref a3, .ref a4, .ref a5, .ref a6, .int 4, .int 0, .int 0, .int 0, .int 0])), (a1, .inl (cA1, 4000, .inl (f_19)))] H := hP
  have hD : va_D A [(h0, .inr (9, [.ref a1, .ref a2, .ref a3, .ref a4, .ref a5, .ref a6, .int 4, .int 0, .int 0, .int 0, .int 0])), (a1, .inl (cA1, 4000, .inl (f_19)))] := hD
  refine lv_iinc (v := 24) (lv' := [(3, .int 24), (0, .ref h0), (1, .long x)]) hx hb dX9_take_41 hl (k := 0) rfl (by decide) (by decide) rfl (fun ls hl => ?_)
  refine lv_goto (tgt := 3) hx hb dX9_take_44 (by decide) ?_
  refine lv_iload_n hx hb dX9_take_3 rfl (lv_at hl 0 rfl) ?_
  refine lv_if_lt (tgt := 47) hx hb dX9_take_4 (by decide) (fun c9 => absurd c9 (by decide)) (fun _ => ?_)
  refine lv_aload_n hx hb dX9_take_7 rfl (lv_at hl 1 rfl) ?_
  refine va_get (D := (dC, dI)) (ci := 9) (v := .int 4) (C := RX9) (T := TX9) (N := 11) hx hb hts (by decide +kernel) hown hK hP 0 rfl rfl 6 (by decide) (hts (.fieldLink RX9 44 "ProofBench$Tape" "length" "I") (by decide +kernel)) (fun _ h9 => h9) rfl dX9_take_8 ?_
  refine lv_sipush (v := 4000) hx hb dX9_take_11 (by decide) ?_
  refine lv_icmp_ge (tgt := 41) hx hb dX9_take_14 (by decide) (fun c9 => absurd c9 (by decide)) (fun _ => ?_)
  refine lv_aload_n hx hb dX9_take_17 rfl (lv_at hl 1 rfl) ?_
  refine va_get (D := (dC, dI)) (ci := 9) (v := .ref a1) (C := RX9) (T := TX9) (N := 11) hx hb hts (by decide +kernel) hown hK hP 0 rfl rfl 0 (by decide) (hts (.fieldLink RX9 9 "ProofBench$Tape" "bytes" "[B") (by decide +kernel)) (fun _ h9 => h9) rfl dX9_take_18 ?_
  refine lv_aload_n hx hb dX9_take_21 rfl (lv_at hl 1 rfl) ?_
  refine va_get (D := (dC, dI)) (ci := 9) (v := .int 4) (C := RX9) (T := TX9) (N := 11) hx hb hts (by decide +kernel) hown hK hP 0 rfl rfl 6 (by decide) (hts (.fieldLink RX9 44 "ProofBench$Tape" "length" "I") (by decide +kernel)) (fun _ h9 => h9) rfl dX9_take_22 ?_
  refine lv_lload_n hx hb dX9_take_25 rfl (lv_at hl 2 rfl) ?_
  refine lv_iload_n hx hb dX9_take_26 rfl (lv_at hl 0 rfl) ?_
  refine lv_lshr hx hb dX9_take_27 rfl ?_
  refine lv_topl (fun y_21 ey_21 => ?_)
  refine lv_l2i hx hb dX9_take_28 rfl ?_
  refine lv_topi (fun r_22 er_22 => ?_)
  refine lv_i2b hx hb dX9_take_29 rfl ?_
  refine lv_topi (fun r_23 er_23 => ?_)
  refine va_bast hx hb hK hP hD hS 1 0 rfl rfl (show vp_in (4) 4000 from by unfold vp_in; decide) dX9_take_30 (fun H locs hP hD hS => ?_)
  obtain ⟨f_24, hP, hD⟩ : ∃ f9 : Nat → Int32, va_P (dC, dI) vwCl [(h0, .inr (9, [.ref a1, .ref a2, .ref a3, .ref a4, .ref a5, .ref a6, .int 4, .int 0, .int 0, .int 0, .int 0])), (a1, .inl (cA1, 4000, .inl (f9)))] H ∧ va_D A [(h0, .inr (9, [.ref a1, .ref a2, .ref a3, .ref a4, .ref a5, .ref a6, .int 4, .int 0, .int 0, .int 0, .int 0])), (a1, .inl (cA1, 4000, .inl (f9)))] := ⟨_, hP, hD⟩
  refine lv_aload_n hx hb dX9_take_31 rfl (lv_at hl 1 rfl) ?_
  refine lv_dup hx hb dX9_take_32 rfl ?_
  refine va_get (D := (dC, dI)) (ci := 9) (v := .int 4) (C := RX9) (T := TX9) (N := 11) hx hb hts (by decide +kernel) hown hK hP 0 rfl rfl 6 (by decide) (hts (.fieldLink RX9 44 "ProofBench$Tape" "length" "I") (by decide +kernel)) (fun _ h9 => h9) rfl dX9_take_33 ?_
  refine lv_iconst (v := 1) hx hb dX9_take_36 (by decide) ?_
  refine lv_iadd hx hb dX9_take_37 ?_
  refine lv_topi (fun z_25 e9 => ?_)
  obtain rfl : z_25 = 5 := by rw [e9]; decide
  refine va_put (D := (dC, dI)) (ci := 9) (v := .int 5) (ty := .int) (C := RX9) (T := TX9) (N := 11) hx hb hts (by decide +kernel) tyX9 tyX9_ok nmX9 hown hK hP hD hS 0 rfl rfl 6 (by decide) (hts (.fieldLink RX9 44 "ProofBench$Tape" "length" "I") (by decide +kernel)) (fun _ h9 => h9) rfl (by decide +kernel) rfl rfl (Nat.le_of_ble_eq_true rfl) dX9_take_38 (fun H locs hP hD hS => ?_)
  have hP : va_P (dC, dI) vwCl [(h0, .inr (9, [.ref a1, .ref a2, .ref a3, .ref a4, .ref a5, .ref a6, .int 5, .int 0, .int 0, .int 0, .int 0])), (a1, .inl (cA1, 4000, .inl (f_24)))] H := hP
  have hD : va_D A [(h0, .inr (9, [.ref a1, .ref a2, .ref a3, .ref a4, .ref a5, .ref a6, .int 5, .int 0, .int 0, .int 0, .int 0])), (a1, .inl (cA1, 4000, .inl (f_24)))] := hD
  refine lv_iinc (v := 16) (lv' := [(3, .int 16), (0, .ref h0), (1, .long x)]) hx hb dX9_take_41 hl (k := 0) rfl (by decide) (by decide) rfl (fun ls hl => ?_)
  refine lv_goto (tgt := 3) hx hb dX9_take_44 (by decide) ?_
  refine lv_iload_n hx hb dX9_take_3 rfl (lv_at hl 0 rfl) ?_
  refine lv_if_lt (tgt := 47) hx hb dX9_take_4 (by decide) (fun c9 => absurd c9 (by decide)) (fun _ => ?_)
  refine lv_aload_n hx hb dX9_take_7 rfl (lv_at hl 1 rfl) ?_
  refine va_get (D := (dC, dI)) (ci := 9) (v := .int 5) (C := RX9) (T := TX9) (N := 11) hx hb hts (by decide +kernel) hown hK hP 0 rfl rfl 6 (by decide) (hts (.fieldLink RX9 44 "ProofBench$Tape" "length" "I") (by decide +kernel)) (fun _ h9 => h9) rfl dX9_take_8 ?_
  refine lv_sipush (v := 4000) hx hb dX9_take_11 (by decide) ?_
  refine lv_icmp_ge (tgt := 41) hx hb dX9_take_14 (by decide) (fun c9 => absurd c9 (by decide)) (fun _ => ?_)
  refine lv_aload_n hx hb dX9_take_17 rfl (lv_at hl 1 rfl) ?_
  refine va_get (D := (dC, dI)) (ci := 9) (v := .ref a1) (C := RX9) (T := TX9) (N := 11) hx hb hts (by decide +kernel) hown hK hP 0 rfl rfl 0 (by decide) (hts (.fieldLink RX9 9 "ProofBench$Tape" "bytes" "[B") (by decide +kernel)) (fun _ h9 => h9) rfl dX9_take_18 ?_
  refine lv_aload_n hx hb dX9_take_21 rfl (lv_at hl 1 rfl) ?_
  refine va_get (D := (dC, dI)) (ci := 9) (v := .int 5) (C := RX9) (T := TX9) (N := 11) hx hb hts (by decide +kernel) hown hK hP 0 rfl rfl 6 (by decide) (hts (.fieldLink RX9 44 "ProofBench$Tape" "length" "I") (by decide +kernel)) (fun _ h9 => h9) rfl dX9_take_22 ?_
  refine lv_lload_n hx hb dX9_take_25 rfl (lv_at hl 2 rfl) ?_
  refine lv_iload_n hx hb dX9_take_26 rfl (lv_at hl 0 rfl) ?_
  refine lv_lshr hx hb dX9_take_27 rfl ?_
  refine lv_topl (fun y_26 ey_26 => ?_)
  refine lv_l2i hx hb dX9_take_28 rfl ?_
  refine lv_topi (fun r_27 er_27 => ?_)
  refine lv_i2b hx hb dX9_take_29 rfl ?_
  refine lv_topi (fun r_28 er_28 => ?_)
  refine va_bast hx hb hK hP hD hS 1 0 rfl rfl (show vp_in (5) 4000 from by unfold vp_in; decide) dX9_take_30 (fun H locs hP hD hS => ?_)
  obtain ⟨f_29, hP, hD⟩ : ∃ f9 : Nat → Int32, va_P (dC, dI) vwCl [(h0, .inr (9, [.ref a1, .ref a2, .ref a3, .ref a4, .ref a5, .ref a6, .int 5, .int 0, .int 0, .int 0, .int 0])), (a1, .inl (cA1, 4000, .inl (f9)))] H ∧ va_D A [(h0, .inr (9, [.ref a1, .ref a2, .ref a3, .ref a4, .ref a5, .ref a6, .int 5, .int 0, .int 0, .int 0, .int 0])), (a1, .inl (cA1, 4000, .inl (f9)))] := ⟨_, hP, hD⟩
  refine lv_aload_n hx hb dX9_take_31 rfl (lv_at hl 1 rfl) ?_
  refine lv_dup hx hb dX9_take_32 rfl ?_
  refine va_get (D := (dC, dI)) (ci := 9) (v := .int 5) (C := RX9) (T := TX9) (N := 11) hx hb hts (by decide +kernel) hown hK hP 0 rfl rfl 6 (by decide) (hts (.fieldLink RX9 44 "ProofBench$Tape" "length" "I") (by decide +kernel)) (fun _ h9 => h9) rfl dX9_take_33 ?_
  refine lv_iconst (v := 1) hx hb dX9_take_36 (by decide) ?_
  refine lv_iadd hx hb dX9_take_37 ?_
  refine lv_topi (fun z_30 e9 => ?_)
  obtain rfl : z_30 = 6 := by rw [e9]; decide
  refine va_put (D := (dC, dI)) (ci := 9) (v := .int 6) (ty := .int) (C := RX9) (T := TX9) (N := 11) hx hb hts (by decide +kernel) tyX9 tyX9_ok nmX9 hown hK hP hD hS 0 rfl rfl 6 (by decide) (hts (.fieldLink RX9 44 "ProofBench$Tape" "length" "I") (by decide +kernel)) (fun _ h9 => h9) rfl (by decide +kernel) rfl rfl (Nat.le_of_ble_eq_true rfl) dX9_take_38 (fun H locs hP hD hS => ?_)
  have hP : va_P (dC, dI) vwCl [(h0, .inr (9, [.ref a1, .ref a2, .ref a3, .ref a4, .ref a5, .ref a6, .int 6, .int 0, .int 0, .int 0, .int 0])), (a1, .inl (cA1, 4000, .inl (f_29)))] H := hP
  have hD : va_D A [(h0, .inr (9, [.ref a1, .ref a2, .ref a3, .ref a4, .ref a5, .ref a6, .int 6, .int 0, .int 0, .int 0, .int 0])), (a1, .inl (cA1, 4000, .inl (f_29)))] := hD
  refine lv_iinc (v := 8) (lv' := [(3, .int 8), (0, .ref h0), (1, .long x)]) hx hb dX9_take_41 hl (k := 0) rfl (by decide) (by decide) rfl (fun ls hl => ?_)
  refine lv_goto (tgt := 3) hx hb dX9_take_44 (by decide) ?_
  refine lv_iload_n hx hb dX9_take_3 rfl (lv_at hl 0 rfl) ?_
  refine lv_if_lt (tgt := 47) hx hb dX9_take_4 (by decide) (fun c9 => absurd c9 (by decide)) (fun _ => ?_)
  refine lv_aload_n hx hb dX9_take_7 rfl (lv_at hl 1 rfl) ?_
  refine va_get (D := (dC, dI)) (ci := 9) (v := .int 6) (C := RX9) (T := TX9) (N := 11) hx hb hts (by decide +kernel) hown hK hP 0 rfl rfl 6 (by decide) (hts (.fieldLink RX9 44 "ProofBench$Tape" "length" "I") (by decide +kernel)) (fun _ h9 => h9) rfl dX9_take_8 ?_
  refine lv_sipush (v := 4000) hx hb dX9_take_11 (by decide) ?_
  refine lv_icmp_ge (tgt := 41) hx hb dX9_take_14 (by decide) (fun c9 => absurd c9 (by decide)) (fun _ => ?_)
  refine lv_aload_n hx hb dX9_take_17 rfl (lv_at hl 1 rfl) ?_
  refine va_get (D := (dC, dI)) (ci := 9) (v := .ref a1) (C := RX9) (T := TX9) (N := 11) hx hb hts (by decide +kernel) hown hK hP 0 rfl rfl 0 (by decide) (hts (.fieldLink RX9 9 "ProofBench$Tape" "bytes" "[B") (by decide +kernel)) (fun _ h9 => h9) rfl dX9_take_18 ?_
  refine lv_aload_n hx hb dX9_take_21 rfl (lv_at hl 1 rfl) ?_
  refine va_get (D := (dC, dI)) (ci := 9) (v := .int 6) (C := RX9) (T := TX9) (N := 11) hx hb hts (by decide +kernel) hown hK hP 0 rfl rfl 6 (by decide) (hts (.fieldLink RX9 44 "ProofBench$Tape" "length" "I") (by decide +kernel)) (fun _ h9 => h9) rfl dX9_take_22 ?_
  refine lv_lload_n hx hb dX9_take_25 rfl (lv_at hl 2 rfl) ?_
  refine lv_iload_n hx hb dX9_take_26 rfl (lv_at hl 0 rfl) ?_
  refine lv_lshr hx hb dX9_take_27 rfl ?_
  refine lv_topl (fun y_31 ey_31 => ?_)
  refine lv_l2i hx hb dX9_take_28 rfl ?_
  refine lv_topi (fun r_32 er_32 => ?_)
  refine lv_i2b hx hb dX9_take_29 rfl ?_
  refine lv_topi (fun r_33 er_33 => ?_)
  refine va_bast hx hb hK hP hD hS 1 0 rfl rfl (show vp_in (6) 4000 from by unfold vp_in; decide) dX9_take_30 (fun H locs hP hD hS => ?_)
  obtain ⟨f_34, hP, hD⟩ : ∃ f9 : Nat → Int32, va_P (dC, dI) vwCl [(h0, .inr (9, [.ref a1, .ref a2, .ref a3, .ref a4, .ref a5, .ref a6, .int 6, .int 0, .int 0, .int 0, .int 0])), (a1, .inl (cA1, 4000, .inl (f9)))] H ∧ va_D A [(h0, .inr (9, [.ref a1, .ref a2, .ref a3, .ref a4, .ref a5, .ref a6, .int 6, .int 0, .int 0, .int 0, .int 0])), (a1, .inl (cA1, 4000, .inl (f9)))] := ⟨_, hP, hD⟩
  refine lv_aload_n hx hb dX9_take_31 rfl (lv_at hl 1 rfl) ?_
  refine lv_dup hx hb dX9_take_32 rfl ?_
  refine va_get (D := (dC, dI)) (ci := 9) (v := .int 6) (C := RX9) (T := TX9) (N := 11) hx hb hts (by decide +kernel) hown hK hP 0 rfl rfl 6 (by decide) (hts (.fieldLink RX9 44 "ProofBench$Tape" "length" "I") (by decide +kernel)) (fun _ h9 => h9) rfl dX9_take_33 ?_
  refine lv_iconst (v := 1) hx hb dX9_take_36 (by decide) ?_
  refine lv_iadd hx hb dX9_take_37 ?_
  refine lv_topi (fun z_35 e9 => ?_)
  obtain rfl : z_35 = 7 := by rw [e9]; decide
  refine va_put (D := (dC, dI)) (ci := 9) (v := .int 7) (ty := .int) (C := RX9) (T := TX9) (N := 11) hx hb hts (by decide +kernel) tyX9 tyX9_ok nmX9 hown hK hP hD hS 0 rfl rfl 6 (by decide) (hts (.fieldLink RX9 44 "ProofBench$Tape" "length" "I") (by decide +kernel)) (fun _ h9 => h9) rfl (by decide +kernel) rfl rfl (Nat.le_of_ble_eq_true rfl) dX9_take_38 (fun H locs hP hD hS => ?_)
  have hP : va_P (dC, dI) vwCl [(h0, .inr (9, [.ref a1, .ref a2, .ref a3, .ref a4, .ref a5, .ref a6, .int 7, .int 0, .int 0, .int 0, .int 0])), (a1, .inl (cA1, 4000, .inl (f_34)))] H := hP
  have hD : va_D A [(h0, .inr (9, [.ref a1, .ref a2, .ref a3, .ref a4, .ref a5, .ref a6, .int 7, .int 0, .int 0, .int 0, .int 0])), (a1, .inl (cA1, 4000, .inl (f_34)))] := hD
  refine lv_iinc (v := 0) (lv' := [(3, .int 0), (0, .ref h0), (1, .long x)]) hx hb dX9_take_41 hl (k := 0) rfl (by decide) (by decide) rfl (fun ls hl => ?_)
  refine lv_goto (tgt := 3) hx hb dX9_take_44 (by decide) ?_
  refine lv_iload_n hx hb dX9_take_3 rfl (lv_at hl 0 rfl) ?_
  refine lv_if_lt (tgt := 47) hx hb dX9_take_4 (by decide) (fun c9 => absurd c9 (by decide)) (fun _ => ?_)
  refine lv_aload_n hx hb dX9_take_7 rfl (lv_at hl 1 rfl) ?_
  refine va_get (D := (dC, dI)) (ci := 9) (v := .int 7) (C := RX9) (T := TX9) (N := 11) hx hb hts (by decide +kernel) hown hK hP 0 rfl rfl 6 (by decide) (hts (.fieldLink RX9 44 "ProofBench$Tape" "length" "I") (by decide +kernel)) (fun _ h9 => h9) rfl dX9_take_8 ?_
  refine lv_sipush (v := 4000) hx hb dX9_take_11 (by decide) ?_
  refine lv_icmp_ge (tgt := 41) hx hb dX9_take_14 (by decide) (fun c9 => absurd c9 (by decide)) (fun _ => ?_)
  refine lv_aload_n hx hb dX9_take_17 rfl (lv_at hl 1 rfl) ?_
  refine va_get (D := (dC, dI)) (ci := 9) (v := .ref a1) (C := RX9) (T := TX9) (N := 11) hx hb hts (by decide +kernel) hown hK hP 0 rfl rfl 0 (by decide) (hts (.fieldLink RX9 9 "ProofBench$Tape" "bytes" "[B") (by decide +kernel)) (fun _ h9 => h9) rfl dX9_take_18 ?_
  refine lv_aload_n hx hb dX9_take_21 rfl (lv_at hl 1 rfl) ?_
  refine va_get (D := (dC, dI)) (ci := 9) (v := .int 7) (C := RX9) (T := TX9) (N := 11) hx hb hts (by decide +kernel) hown hK hP 0 rfl rfl 6 (by decide) (hts (.fieldLink RX9 44 "ProofBench$Tape" "length" "I") (by decide +kernel)) (fun _ h9 => h9) rfl dX9_take_22 ?_
  refine lv_lload_n hx hb dX9_take_25 rfl (lv_at hl 2 rfl) ?_
  refine lv_iload_n hx hb dX9_take_26 rfl (lv_at hl 0 rfl) ?_
  refine lv_lshr hx hb dX9_take_27 rfl ?_
  refine lv_topl (fun y_36 ey_36 => ?_)
  refine lv_l2i hx hb dX9_take_28 rfl ?_
  refine lv_topi (fun r_37 er_37 => ?_)
  refine lv_i2b hx hb dX9_take_29 rfl ?_
  refine lv_topi (fun r_38 er_38 => ?_)
  refine va_bast hx hb hK hP hD hS 1 0 rfl rfl (show vp_in (7) 4000 from by unfold vp_in; decide) dX9_take_30 (fun H locs hP hD hS => ?_)
  obtain ⟨f_39, hP, hD⟩ : ∃ f9 : Nat → Int32, va_P (dC, dI) vwCl [(h0, .inr (9, [.ref a1, .ref a2, .ref a3, .ref a4, .ref a5, .ref a6, .int 7, .int 0, .int 0, .int 0, .int 0])), (a1, .inl (cA1, 4000, .inl (f9)))] H ∧ va_D A [(h0, .inr (9, [.ref a1, .ref a2, .ref a3, .ref a4, .ref a5, .ref a6, .int 7, .int 0, .int 0, .int 0, .int 0])), (a1, .inl (cA1, 4000, .inl (f9)))] := ⟨_, hP, hD⟩
  refine lv_aload_n hx hb dX9_take_31 rfl (lv_at hl 1 rfl) ?_
  refine lv_dup hx hb dX9_take_32 rfl ?_
  refine va_get (D := (dC, dI)) (ci := 9) (v := .int 7) (C := RX9) (T := TX9) (N := 11) hx hb hts (by decide +kernel) hown hK hP 0 rfl rfl 6 (by decide) (hts (.fieldLink RX9 44 "ProofBench$Tape" "length" "I") (by decide +kernel)) (fun _ h9 => h9) rfl dX9_take_33 ?_
  refine lv_iconst (v := 1) hx hb dX9_take_36 (by decide) ?_
  refine lv_iadd hx hb dX9_take_37 ?_
  refine lv_topi (fun z_40 e9 => ?_)
  obtain rfl : z_40 = 8 := by rw [e9]; decide
  refine va_put (D := (dC, dI)) (ci := 9) (v := .int 8) (ty := .int) (C := RX9) (T := TX9) (N := 11) hx hb hts (by decide +kernel) tyX9 tyX9_ok nmX9 hown hK hP hD hS 0 rfl rfl 6 (by decide) (hts (.fieldLink RX9 44 "ProofBench$Tape" "length" "I") (by decide +kernel)) (fun _ h9 => h9) rfl (by decide +kernel) rfl rfl (Nat.le_of_ble_eq_true rfl) dX9_take_38 (fun H locs hP hD hS => ?_)
  have hP : va_P (dC, dI) vwCl [(h0, .inr (9, [.ref a1, .ref a2, .ref a3, .ref a4, .ref a5, .ref a6, .int 8, .int 0, .int 0, .int 0, .int 0])), (a1, .inl (cA1, 4000, .inl (f_39)))] H := hP
  have hD : va_D A [(h0, .inr (9, [.ref a1, .ref a2, .ref a3, .ref a4, .ref a5, .ref a6, .int 8, .int 0, .int 0, .int 0, .int 0])), (a1, .inl (cA1, 4000, .inl (f_39)))] := hD
  refine lv_iinc (v := -8) (lv' := [(3, .int (-8)), (0, .ref h0), (1, .long x)]) hx hb dX9_take_41 hl (k := 0) rfl (by decide) (by decide) rfl (fun ls hl => ?_)
  refine lv_goto (tgt := 3) hx hb dX9_take_44 (by decide) ?_
  refine lv_iload_n hx hb dX9_take_3 rfl (lv_at hl 0 rfl) ?_
  refine lv_if_lt (tgt := 47) hx hb dX9_take_4 (by decide) (fun _ => ?_) (fun c9 => absurd c9 (by decide))
  have hP9 := hP.sub (ws' := [(h0, .inr (9, [.ref a1, .ref a2, .ref a3, .ref a4, .ref a5, .ref a6, .int 8, .int 0, .int 0, .int 0, .int 0])), (a1, .inl (cA1, 4000, .inl (f_39)))]) [0, 1] rfl
  have hD9 := hD.sub (ws' := [(h0, .inr (9, [.ref a1, .ref a2, .ref a3, .ref a4, .ref a5, .ref a6, .int 8, .int 0, .int 0, .int 0, .int 0])), (a1, .inl (cA1, 4000, .inl (f_39)))]) [0, 1] (by decide) rfl
  have hK9 := hK.sub (tys' := [(cA1, .byte)]) [0] rfl
  refine W.widen (k := 0) (n := 0) (by omega) (by omega) ?_
  exact W.vret hx hb hr (fun t ht hW => ⟨⟨(), rfl, trivial, f_39, by rw [ht]; exact hP9, va_K.moved hW.alike hK9, hD9⟩, hS.F ht⟩) hS.2.2 dX9_take_47
set_option maxHeartbeats 1000000 in
set_option maxRecDepth 100000 in
/-- take(x): eight bytes behind 8 -/
theorem c_take_8 (l : Launch) (dC : Nat → ClassId) (dI : Nat → Nat → Nat) (sz : Nat) (h0 a1 a2 a3 a4 a5 a6 : Nat) (cA1 : ClassId) (g1 : Nat → Int32) (x : Int64) : Met l yX9_take wc_X9_take ({ frames := 0, cells := 0, slots := 0, locals := 0 }) (va_Pc [.ref h0, .long x] (fun U => U.heap.size = sz ∧ va_P (dC, dI) vwCl [(h0, .inr (9, [.ref a1, .ref a2, .ref a3, .ref a4, .ref a5, .ref a6, .int 8, .int 0, .int 0, .int 0, .int 0])), (a1, .inl (cA1, 4000, .inl (g1)))] U.heap ∧ va_K (dC, dI) vwCl [(cA1, .byte)] U ∧ va_D (fun _ => True) [(h0, .inr (9, [.ref a1, .ref a2, .ref a3, .ref a4, .ref a5, .ref a6, .int 8, .int 0, .int 0, .int 0, .int 0])), (a1, .inl (cA1, 4000, .inl (g1)))])) (va_Qv (fun _ : Unit => True) (fun _ t => ∃ (k9 : Nat → Int32), va_P (dC, dI) vwCl [(h0, .inr (9, [.ref a1, .ref a2, .ref a3, .ref a4, .ref a5, .ref a6, .int 16, .int 0, .int 0, .int 0, .int 0])), (a1, .inl (cA1, 4000, .inl (k9)))] t.heap ∧ va_K (dC, dI) vwCl [(cA1, .byte)] t ∧ va_D (va_A [(h0, .inr (9, [.ref a1, .ref a2, .ref a3, .ref a4, .ref a5, .ref a6, .int 8, .int 0, .int 0, .int 0, .int 0])), (a1, .inl (cA1, 4000, .inl (g1)))] sz) [(h0, .inr (9, [.ref a1, .ref a2, .ref a3, .ref a4, .ref a5, .ref a6, .int 16, .int 0, .int 0, .int 0, .int 0])), (a1, .inl (cA1, 4000, .inl (k9)))]) (va_A [(h0, .inr (9, [.ref a1, .ref a2, .ref a3, .ref a4, .ref a5, .ref a6, .int 8, .int 0, .int 0, .int 0, .int 0])), (a1, .inl (cA1, 4000, .inl (g1)))] sz)) (0) (0) (va_A [(h0, .inr (9, [.ref a1, .ref a2, .ref a3, .ref a4, .ref a5, .ref a6, .int 8, .int 0, .int 0, .int 0, .int 0])), (a1, .inl (cA1, 4000, .inl (g1)))] sz) := by
  refine Met.ofW (cc := cX9_take) (maxL := 4) (ret := none) (by decide) rfl ?_
  intro p e s m args below meth c s₁ B hml hv
  obtain ⟨rfl, hsz, hP, hK, hD0⟩ := hv
  have hx := B.exec
  have hb := B.bytes
  have hr := B.returns
  have hts := atoms_spec (ws := wc_X9_take) B.pre
  have hown : s.vm.findClass RX9 = some m.cls := findClass_of_methodNamed B.named
  have hlocks := B.notSynchronized
  subst hsz
  have hD := hD0.self (sz := s.heap.size)
  generalize hAe : va_A [(h0, .inr (9, [.ref a1, .ref a2, .ref a3, .ref a4, .ref a5, .ref a6, .int 8, .int 0, .int 0, .int 0, .int 0])), (a1, .inl (cA1, 4000, .inl (g1)))] s.heap.size = A at hD ⊢
  have hA : ∀ q : Nat, s.heap.size ≤ q → A q := fun q h => by rw [← hAe]; exact Or.inr h
  have hS : va_S A s.heap s.heap [] := va_S.rf
  have hl := lv_entry ([.ref h0, .long x]) (n := 4) (Nat.le_of_ble_eq_true rfl)
  rw [lg_entry_eq]
  generalize (lg_sl ([.ref h0, .long x]) ++ List.replicate (4 - (lg_sl ([.ref h0, .long x])).length) Slot.unset).toArray = ls at hl ⊢
  have hl : lv_has ls 4 [(0, .ref h0), (1, .long x)] := hl
  refine lv_bipush (v := 56) hx hb dX9_take_0 (by decide) ?_
  refine lv_istore_n (lv' := [(3, .int 56), (0, .ref h0), (1, .long x)]) hx hb dX9_take_2 rfl hl (by decide) rfl (fun ls hl => ?_)
  refine lv_iload_n hx hb dX9_take_3 rfl (lv_at hl 0 rfl) ?_
  refine lv_if_lt (tgt := 47) hx hb dX9_take_4 (by decide) (fun c9 => absurd c9 (by decide)) (fun _ => ?_)
  refine lv_aload_n hx hb dX9_take_7 rfl (lv_at hl 1 rfl) ?_
  refine va_get (D := (dC, dI)) (ci := 9) (v := .int 8) (C := RX9) (T := TX9) (N := 11) hx hb hts (by decide +kernel) hown hK hP 0 rfl rfl 6 (by decide) (hts (.fieldLink RX9 44 "ProofBench$Tape" "length" "I") (by decide +kernel)) (fun _ h9 => h9) rfl dX9_take_8 ?_
  refine lv_sipush (v := 4000) hx hb dX9_take_11 (by decide) ?_
  refine lv_icmp_ge (tgt := 41) hx hb dX9_take_14 (by decide) (fun c9 => absurd c9 (by decide)) (fun _ => ?_)
  refine lv_aload_n hx hb dX9_take_17 rfl (lv_at hl 1 rfl) ?_
  refine va_get (D := (dC, dI)) (ci := 9) (v := .ref a1) (C := RX9) (T := TX9) (N := 11) hx hb hts (by decide +kernel) hown hK hP 0 rfl rfl 0 (by decide) (hts (.fieldLink RX9 9 "ProofBench$Tape" "bytes" "[B") (by decide +kernel)) (fun _ h9 => h9) rfl dX9_take_18 ?_
  refine lv_aload_n hx hb dX9_take_21 rfl (lv_at hl 1 rfl) ?_
  refine va_get (D := (dC, dI)) (ci := 9) (v := .int 8) (C := RX9) (T := TX9) (N := 11) hx hb hts (by decide +kernel) hown hK hP 0 rfl rfl 6 (by decide) (hts (.fieldLink RX9 44 "ProofBench$Tape" "length" "I") (by decide +kernel)) (fun _ h9 => h9) rfl dX9_take_22 ?_
  refine lv_lload_n hx hb dX9_take_25 rfl (lv_at hl 2 rfl) ?_
  refine lv_iload_n hx hb dX9_take_26 rfl (lv_at hl 0 rfl) ?_
  refine lv_lshr hx hb dX9_take_27 rfl ?_
  refine lv_topl (fun y_1 ey_1 => ?_)
  refine lv_l2i hx hb dX9_take_28 rfl ?_
  refine lv_topi (fun r_2 er_2 => ?_)
  refine lv_i2b hx hb dX9_take_29 rfl ?_
  refine lv_topi (fun r_3 er_3 => ?_)
  refine va_bast hx hb hK hP hD hS 1 0 rfl rfl (show vp_in (8) 4000 from by unfold vp_in; decide) dX9_take_30 (fun H locs hP hD hS => ?_)
  obtain ⟨f_4, hP, hD⟩ : ∃ f9 : Nat → Int32, va_P (dC, dI) vwCl [(h0, .inr (9, [.ref a1, .ref a2, .ref a3, .ref a4, .ref a5, .ref a6, .int 8, .int 0, .int 0, .int 0, .int 0])), (a1, .inl (cA1, 4000, .inl (f9)))] H ∧ va_D A [(h0, .inr (9, [.ref a1, .ref a2, .ref a3, .ref a4, .ref a5, .ref a6, .int 8, .int 0, .int 0, .int 0, .int 0])), (a1, .inl (cA1, 4000, .inl (f9)))] := ⟨_, hP, hD⟩
  refine lv_aload_n hx hb dX9_take_31 rfl (lv_at hl 1 rfl) ?_
  refine lv_dup hx hb dX9_take_32 rfl ?_
  refine va_get (D := (dC, dI)) (ci := 9) (v := .int 8) (C := RX9) (T := TX9) (N := 11) hx hb hts (by decide +kernel) hown hK hP 0 rfl rfl 6 (by decide) (hts (.fieldLink RX9 44 "ProofBench$Tape" "length" "I") (by decide +kernel)) (fun _ h9 => h9) rfl dX9_take_33 ?_
  refine lv_iconst (v := 1) hx hb dX9_take_36 (by decide) ?_
  refine lv_iadd hx hb dX9_take_37 ?_
  refine lv_topi (fun z_5 e9 => ?_)
  obtain rfl : z_5 = 9 := by rw [e9]; decide
  refine va_put (D := (dC, dI)) (ci := 9) (v := .int 9) (ty := .int) (C := RX9) (T := TX9) (N := 11) hx hb hts (by decide +kernel) tyX9 tyX9_ok nmX9 hown hK hP hD hS 0 rfl rfl 6 (by decide) (hts (.fieldLink RX9 44 "ProofBench$Tape" "length" "I") (by decide +kernel)) (fun _ h9 => h9) rfl (by decide +kernel) rfl rfl (Nat.le_of_ble_eq_true rfl) dX9_take_38 (fun H locs hP hD hS => ?_)
  have hP : va_P (dC, dI) vwCl [(h0, .inr (9, [.ref a1, .ref a2, .ref a3, .ref a4, .ref a5, .ref a6, .int 9, .int 0, .int 0, .int 0, .int 0])), (a1, .inl (cA1, 4000, .inl (f_4)))] H := hP
  have hD : va_D A [(h0, .inr (9, [.ref a1, .ref a2, .ref a3, .ref a4, .ref a5, .ref a6, .int 9, .int 0, .int 0, .int 0, .int 0])), (a1, .inl (cA1, 4000, .inl (f_4)))] := hD
  refine lv_iinc (v := 48) (lv' := [(3, .int 48), (0, .ref h0), (1, .long x)]) hx hb dX9_take_41 hl (k := 0) rfl (by decide) (by decide) rfl (fun ls hl => ?_)
  refine lv_goto (tgt := 3) hx hb dX9_take_44 (by decide) ?_
  refine lv_iload_n hx hb dX9_take_3 rfl (lv_at hl 0 rfl) ?_
  refine lv_if_lt (tgt := 47) hx hb dX9_take_4 (by decide) (fun c9 => absurd c9 (by decide)) (fun _ => ?_)
  refine lv_aload_n hx hb dX9_take_7 rfl (lv_at hl 1 rfl) ?_
  refine va_get (D := (dC, dI)) (ci := 9) (v := .int 9) (C := RX9) (T := TX9) (N := 11) hx hb hts (by decide +kernel) hown hK hP 0 rfl rfl 6 (by decide) (hts (.fieldLink RX9 44 "ProofBench$Tape" "length" "I") (by decide +kernel)) (fun _ h9 => h9) rfl dX9_take_8 ?_
  refine lv_sipush (v := 4000) hx hb dX9_take_11 (by decide) ?_
  refine lv_icmp_ge (tgt := 41) hx hb dX9_take_14 (by decide) (fun c9 => absurd c9 (by decide)) (fun _ => ?_)
  refine lv_aload_n hx hb dX9_take_17 rfl (lv_at hl 1 rfl) ?_
  refine va_get (D := (dC, dI)) (ci := 9) (v := .ref a1) (C := RX9) (T := TX9) (N := 11) hx hb hts (by decide +kernel) hown hK hP 0 rfl rfl 0 (by decide) (hts (.fieldLink RX9 9 "ProofBench$Tape" "bytes" "[B") (by decide +kernel)) (fun _ h9 => h9) rfl dX9_take_18 ?_
  refine lv_aload_n hx hb dX9_take_21 rfl (lv_at hl 1 rfl) ?_
  refine va_get (D := (dC, dI)) (ci := 9) (v := .int 9) (C := RX9) (T := TX9) (N := 11) hx hb hts (by decide +kernel) hown hK hP 0 rfl rfl 6 (by decide) (hts (.fieldLink RX9 44 "ProofBench$Tape" "length" "I") (by decide +kernel)) (fun _ h9 => h9) rfl dX9_take_22 ?_
  refine lv_lload_n hx hb dX9_take_25 rfl (lv_at hl 2 rfl) ?_
  refine lv_iload_n hx hb dX9_take_26 rfl (lv_at hl 0 rfl) ?_
  refine lv_lshr hx hb dX9_take_27 rfl ?_
  refine lv_topl (fun y_6 ey_6 => ?_)
  refine lv_l2i hx hb dX9_take_28 rfl ?_
  refine lv_topi (fun r_7 er_7 => ?_)
  refine lv_i2b hx hb dX9_take_29 rfl ?_
  refine lv_topi (fun r_8 er_8 => ?_)
  refine va_bast hx hb hK hP hD hS 1 0 rfl rfl (show vp_in (9) 4000 from by unfold vp_in; decide) dX9_take_30 (fun H locs hP hD hS => ?_)
  obtain ⟨f_9, hP, hD⟩ : ∃ f9 : Nat → Int32, va_P (dC, dI) vwCl [(h0, .inr (9, [.ref a1, .ref a2, .ref a3, .ref a4, .ref a5, .ref a6, .int 9, .int 0, .int 0, .int 0, .int 0])), (a1, .inl (cA1, 4000, .inl (f9)))] H ∧ va_D A [(h0, .inr (9, [.ref a1, .ref a2, .ref a3, .ref a4, .ref a5, .ref a6, .int 9, .int 0, .int 0, .int 0, .int 0])), (a1, .inl (cA1, 4000, .inl (f9)))] := ⟨_, hP, hD⟩
  refine lv_aload_n hx hb dX9_take_31 rfl (lv_at hl 1 rfl) ?_
  refine lv_dup hx hb dX9_take_32 rfl ?_
  refine va_get (D := (dC, dI)) (ci := 9) (v := .int 9) (C := RX9) (T := TX9) (N := 11) hx hb hts (by decide +kernel) hown hK hP 0 rfl rfl 6 (by decide) (hts (.fieldLink RX9 44 "ProofBench$Tape" "length" "I") (by decide +kernel)) (fun _ h9 => h9) rfl dX9_take_33 ?_
  refine lv_iconst (v := 1) hx hb dX9_take_36 (by decide) ?_
  refine lv_iadd hx hb dX9_take_37 ?_
  refine lv_topi (fun z_10 e9 => ?_)
  obtain rfl : z_10 = 10 := by rw [e9]; decide
  refine va_put (D := (dC, dI)) (ci := 9) (v := .int 10) (ty := .int) (C := RX9) (T := TX9) (N := 11) hx hb hts (by decide +kernel) tyX9 tyX9_ok nmX9 hown hK hP hD hS 0 rfl rfl 6 (by decide) (hts (.fieldLink RX9 44 "ProofBench$Tape" "length" "I") (by decide +kernel)) (fun _ h9 => h9) rfl (by decide +kernel) rfl rfl (Nat.le_of_ble_eq_true rfl) dX9_take_38 (fun H locs hP hD hS => ?_)
  have hP : va_P (dC, dI) vwCl [(h0, .inr (9, [.ref a1, .ref a2, .ref a3, .ref a4, .ref a5, .ref a6, .int 10, .int 0, .int 0, .int 0, .int 0])), (a1, .inl (cA1, 4000, .inl (f_9)))] H := hP
  have hD : va_D A [(h0, .inr (9, [.ref a1, .ref a2, .ref a3, .ref a4, .ref a5, .ref a6, .int 10, .int 0, .int 0, .int 0, .int 0])), (a1, .inl (cA1, 4000, .inl (f_9)))] := hD
  refine lv_iinc (v := 40) (lv' := [(3, .int 40), (0, .ref h0), (1, .long x)]) hx hb dX9_take_41 hl (k := 0) rfl (by decide) (by decide) rfl (fun ls hl => ?_)
  refine lv_goto (tgt := 3) hx hb dX9_take_44 (by decide) ?_
  refine lv_iload_n hx hb dX9_take_3 rfl (lv_at hl 0 rfl) ?_
  refine lv_if_lt (tgt := 47) hx hb dX9_take_4 (by decide) (fun c9 => absurd c9 (by decide)) (fun _ => ?_)
  refine lv_aload_n hx hb dX9_take_7 rfl (lv_at hl 1 rfl) ?_
  refine va_get (D := (dC, dI)) (ci := 9) (v := .int 10) (C := RX9) (T := TX9) (N := 11) hx hb hts (by decide +kernel) hown hK hP 0 rfl rfl 6 (by decide) (hts (.fieldLink RX9 44 "ProofBench$Tape" "length" "I") (by decide +kernel)) (fun _ h9 => h9) rfl dX9_take_8 ?_
  refine lv_sipush (v := 4000) hx hb dX9_take_11 (by decide) ?_
  refine lv_icmp_ge (tgt := 41) hx hb dX9_take_14 (by decide) (fun c9 => absurd c9 (by decide)) (fun _ => ?_)
  refine lv_aload_n hx hb dX9_take_17 rfl (lv_at hl 1 rfl) ?_
  refine va_get (D := (dC, dI)) (ci := 9) (v := .ref a1) (C := RX9) (T := TX9) (N := 11) hx hb hts (by decide +kernel) hown hK hP 0 rfl rfl 0 (by decide) (hts (.fieldLink RX9 9 "ProofBench$Tape" "bytes" "[B") (by decide +kernel)) (fun _ h9 => h9) rfl dX9_take_18 ?_
  refine lv_aload_n hx hb dX9_take_21 rfl (lv_at hl 1 rfl) ?_
  refine va_get (D := (dC, dI)) (ci := 9) (v := .int 10) (C := RX9) (T := TX9) (N := 11) hx hb hts (by decide +kernel) hown hK hP 0 rfl rfl 6 (by decide) (hts (.fieldLink RX9 44 "ProofBench$Tape" "length" "I") (by decide +kernel)) (fun _ h9 => h9) rfl dX9_take_22 ?_
  refine lv_lload_n hx hb dX9_take_25 rfl (lv_at hl 2 rfl) ?_
  refine lv_iload_n hx hb dX9_take_26 rfl (lv_at hl 0 rfl) ?_
  refine lv_lshr hx hb dX9_take_27 rfl ?_
  refine lv_topl (fun y_11 ey_11 => ?_)
  refine lv_l2i hx hb dX9_take_28 rfl ?_
  refine lv_topi (fun r_12 er_12 => ?_)
  refine lv_i2b hx hb dX9_take_29 rfl ?_
  refine lv_topi (fun r_13 er_13 => ?_)
  refine va_bast hx hb hK hP hD hS 1 0 rfl rfl (show vp_in (10) 4000 from by unfold vp_in; decide) dX9_take_30 (fun H locs hP hD hS => ?_)
  obtain ⟨f_14, hP, hD⟩ : ∃ f9 : Nat → Int32, va_P (dC, dI) vwCl [(h0, .inr (9, [.ref a1, .ref a2, .ref a3, .ref a4, .ref a5, .ref a6, .int 10, .int 0, .int 0, .int 0, .int 0])), (a1, .inl (cA1, 4000, .inl (f9)))] H ∧ va_D A [(h0, .inr (9, [.ref a1, .ref a2, .ref a3, .ref a4, .ref a5, .ref a6, .int 10, .int 0, .int 0, .int 0, .int 0])), (a1, .inl (cA1, 4000, .inl (f9)))] := ⟨_, hP, hD⟩
  refine lv_aload_n hx hb dX9_take_31 rfl (lv_at hl 1 rfl) ?_
  refine lv_dup hx hb dX9_take_32 rfl ?_
  refine va_get (D := (dC, dI)) (ci := 9) (v := .int 10) (C := RX9) (T := TX9) (N := 11) hx hb hts (by decide +kernel) hown hK hP 0 rfl rfl 6 (by decide) (hts (.fieldLink RX9 44 "ProofBench$Tape" "length" "I") (by decide +kernel)) (fun _ h9 => h9) rfl dX9_take_33 ?_
  refine lv_iconst (v := 1) hx hb dX9_take_36 (by decide) ?_
  refine lv_iadd hx hb dX9_take_37 ?_
  refine lv_topi (fun z_15 e9 => ?_)
  obtain rfl : z_15 = 11 := by rw [e9]; decide
  refine va_put (D := (dC, dI)) (ci := 9) (v := .int 11) (ty := .int) (C := RX9) (T := TX9) (N := 11) hx hb hts (by decide +kernel) tyX9 tyX9_ok nmX9 hown hK hP hD hS 0 rfl rfl 6 (by decide) (hts (.fieldLink RX9 44 "ProofBench$Tape" "length" "I") (by decide +kernel)) (fun _ h9 => h9) rfl (by decide +kernel) rfl rfl (Nat.le_of_ble_eq_true rfl) dX9_take_38 (fun H locs hP hD hS => ?_)
  have hP : va_P (dC, dI) vwCl [(h0, .inr (9, [.ref a1, .ref a2, .ref a3, .ref a4, .ref a5, .ref a6, .int 11, .int 0, .int 0, .int 0, .int 0])), (a1, .inl (cA1, 4000, .inl (f_14)))] H := hP
  have hD : va_D A [(h0, .inr (9, [.ref a1, .ref a2, .ref a3, .ref a4, .ref a5, .ref a6, .int 11, .int 0, .int 0, .int 0, .int 0])), (a1, .inl (cA1, 4000, .inl (f_14)))] := hD
  refine lv_iinc (v := 32) (lv' := [(3, .int 32), (0, .ref h0), (1, .long x)]) hx hb dX9_take_41 hl (k := 0) rfl (by decide) (by decide) rfl (fun ls hl => ?_)
  refine lv_goto (tgt := 3) hx hb dX9_take_44 (by decide) ?_
  refine lv_iload_n hx hb dX9_take_3 rfl (lv_at hl 0 rfl) ?_
  refine lv_if_lt (tgt := 47) hx hb dX9_take_4 (by decide) (fun c9 => absurd c9 (by decide)) (fun _ => ?_)
  refine lv_aload_n hx hb dX9_take_7 rfl (lv_at hl 1 rfl) ?_
  refine va_get (D := (dC, dI)) (ci := 9) (v := .int 11) (C := RX9) (T := TX9) (N := 11) hx hb hts (by decide +kernel) hown hK hP 0 rfl rfl 6 (by decide) (hts (.fieldLink RX9 44 "ProofBench$Tape" "length" "I") (by decide +kernel)) (fun _ h9 => h9) rfl dX9_take_8 ?_
  refine lv_sipush (v := 4000) hx hb dX9_take_11 (by decide) ?_
  refine lv_icmp_ge (tgt := 41) hx hb dX9_take_14 (by decide) (fun c9 => absurd c9 (by decide)) (fun _ => ?_)
  refine lv_aload_n hx hb dX9_take_17 rfl (lv_at hl 1 rfl) ?_
  refine va_get (D := (dC, dI)) (ci := 9) (v := .ref a1) (C := RX9) (T := TX9) (N := 11) hx hb hts (by decide +kernel) hown hK hP 0 rfl rfl 0 (by decide) (hts (.fieldLink RX9 9 "ProofBench$Tape" "bytes" "[B") (by decide +kernel)) (fun _ h9 => h9) rfl dX9_take_18 ?_
  refine lv_aload_n hx hb dX9_take_21 rfl (lv_at hl 1 rfl) ?_
  refine va_get (D := (dC, dI)) (ci := 9) (v := .int 11) (C := RX9) (T := TX9) (N := 11) hx hb hts (by decide +kernel) hown hK hP 0 rfl rfl 6 (by decide) (hts (.fieldLink RX9 44 "ProofBench$Tape" "length" "I") (by decide +kernel)) (fun _ h9 => h9) rfl dX9_take_22 ?_
  refine lv_lload_n hx hb dX9_take_25 rfl (lv_at hl 2 rfl) ?_
  refine lv_iload_n hx hb dX9_take_26 rfl (lv_at hl 0 rfl) ?_
  refine lv_lshr hx hb dX9_take_27 rfl ?_
  refine lv_topl (fun y_16 ey_16 => ?_)
  refine lv_l2i hx hb dX9_take_28 rfl ?_
  refine lv_topi (fun r_17 er_17 => ?_)
  refine lv_i2b hx hb dX9_take_29 rfl ?_
  refine lv_topi (fun r_18 er_18 => ?_)
  refine va_bast hx hb hK hP hD hS 1 0 rfl rfl (show vp_in (11) 4000 from by unfold vp_in; decide) dX9_take_30 (fun H locs hP hD hS => ?_)
  obtain ⟨f_19, hP, hD⟩ : ∃ f9 : Nat → Int32, va_P (dC, dI) vwCl [(h0, .inr (9, [.ref a1, .ref a2, .ref a3, .ref a4, .ref a5, .ref a6, .int 11, .int 0, .int 0, .int 0, .int 0])), (a1, .inl (cA1, 4000, .inl (f9)))] H ∧ va_D A [(h0, .inr (9, [.ref a1, .ref a2, .ref a3, .ref a4, .ref a5, .ref a6, .int 11, .int 0, .int 0, .int 0, .int 0])), (a1, .inl (cA1, 4000, .inl (f9)))] := ⟨_, hP, hD⟩
  refine lv_aload_n hx hb dX9_take_31 rfl (lv_at hl 1 rfl) ?_
  refine lv_dup hx hb dX9_take_32 rfl ?_
  refine va_get (D := (dC, dI)) (ci := 9) (v := .int 11) (C := RX9) (T := TX9) (N := 11) hx hb hts (by decide +kernel) hown hK hP 0 rfl rfl 6 (by decide) (hts (.fieldLink RX9 44 "ProofBench$Tape" "length" "I") (by decide +kernel)) (fun _ h9 => h9) rfl dX9_take_33 ?_
  refine lv_iconst (v := 1) hx hb dX9_take_36 (by decide) ?_
  refine lv_iadd hx hb dX9_take_37 ?_
  refine lv_topi (fun z_20 e9 => ?_)
  obtain rfl : z_20 = 12 := by rw [e9]; decide
  refine va_put (D := (dC, dI)) (ci := 9) (v := .int 12) (ty := .int) (C := RX9) (T := TX9) (N := 11) hx hb hts (by decide +kernel) tyX9 tyX9_ok nmX9 hown hK hP hD hS 0 rfl rfl 6 (by decide) (hts (.fieldLink RX9 44 "ProofBench$Tape" "length" "I") (by decide +kernel)) (fun _ h9 => h9) rfl (by decide +kernel) rfl rfl (Nat.le_of_ble_eq_true rfl) dX9_take_38 (fun H locs hP hD hS => ?_)
  have hP : va_P (dC, dI) vwCl [(h0, .inr (9, [.ref a1, .ref a2, .ref a3, .ref a4, .ref a5, .ref a6, .int 12, .int 0, .int 0, .int 0, .int 0])), (a1, .inl (cA1, 4000, .inl (f_19)))] H := hP
  have hD : va_D A [(h0, .inr (9, [.ref a1, .ref a2, .ref a3, .ref a4, .ref a5, .ref a6, .int 12, .int 0, .int 0, .int 0, .int 0])), (a1, .inl (cA1, 4000, .inl (f_19)))] := hD
  refine lv_iinc (v := 24) (lv' := [(3, .int 24), (0, .ref h0), (1, .long x)]) hx hb dX9_take_41 hl (k := 0) rfl (by decide) (by decide) rfl (fun ls hl => ?_)
  refine lv_goto (tgt := 3) hx hb dX9_take_44 (by decide) ?_
  refine lv_iload_n hx hb dX9_take_3 rfl (lv_at hl 0 rfl) ?_
  refine lv_if_lt (tgt := 47) hx hb dX9_take_4 (by decide) (fun c9 => absurd c9 (by decide)) (fun _ => ?_)
  refine lv_aload_n hx hb dX9_take_7 rfl (lv_at hl 1 rfl) ?_
  refine va_get (D := (dC, dI)) (ci := 9) (v := .int 12) (C := RX9) (T := TX9) (N := 11) hx hb hts (by decide +kernel) hown hK hP 0 rfl rfl 6 (by decide) (hts (.fieldLink RX9 44 "ProofBench$Tape" "length" "I") (by decide +kernel)) (fun _ h9 => h9) rfl dX9_take_8 ?_
  refine lv_sipush (v := 4000) hx hb dX9_take_11 (by decide) ?_
  refine lv_icmp_ge (tgt := 41) hx hb dX9_take_14 (by decide) (fun c9 => absurd c9 (by decide)) (fun _ => ?_)
  refine lv_aload_n hx hb dX9_take_17 rfl (lv_at hl 1 rfl) ?_
  refine va_get (D := (dC, dI)) (ci := 9) (v := .ref a1) (C := RX9) (T := TX9) (N := 11) hx hb hts (by decide +kernel) hown hK hP 0 rfl rfl 0 (by decide) (hts (.fieldLink RX9 9 "ProofBench$Tape" "bytes" "[B") (by decide +kernel)) (fun _ h9 => h9) rfl dX9_take_18 ?_
  refine lv_aload_n hx hb dX9_take_21 rfl (lv_at hl 1 rfl) ?_
  refine va_get (D := (dC, dI)) (ci := 9) (v := .int 12) (C := RX9) (T := TX9) (N := 11) hx hb hts (by decide +kernel) hown hK hP 0 rfl rfl 6 (by decide) (hts (.fieldLink RX9 44 "ProofBench$Tape" "length" "I") (by decide +kernel)) (fun _ h9 => h9) rfl dX9_take_22 ?_
  refine lv_lload_n hx hb dX9_take_25 rfl (lv_at hl 2 rfl) ?_
  refine lv_iload_n hx hb dX9_take_26 rfl (lv_at hl 0 rfl) ?_
  refine lv_lshr hx hb dX9_take_27 rfl ?_
  refine lv_topl (fun y_21 ey_21 => ?_)
  refine lv_l2i hx hb dX9_take_28 rfl ?_
  refine lv_topi (fun r_22 er_22 => ?_)
  refine lv_i2b hx hb dX9_take_29 rfl ?_
  refine lv_topi (fun r_23 er_23 => ?_)
  refine va_bast hx hb hK hP hD hS 1 0 rfl rfl (show vp_in (12) 4000 from by unfold vp_in; decide) dX9_take_30 (fun H locs hP hD hS => ?_)
  obtain ⟨f_24, hP, hD⟩ : ∃ f9 : Nat → Int32, va_P (dC, dI) vwCl [(h0, .inr (9, [.ref a1, .ref a2, .ref a3, .ref a4, .ref a5, .ref a6, .int 12, .int 0, .int 0, .int 0, .int 0])), (a1, .inl (cA1, 4000, .inl (f9)))] H ∧ va_D A [(h0, .inr (9, [.ref a1, .ref a2, .ref a3, .ref a4, .ref a5, .ref a6, .int 12, .int 0, .int 0, .int 0, .int 0])), (a1, .inl (cA1, 4000, .inl (f9)))] := ⟨_, hP, hD⟩
  refine lv_aload_n hx hb dX9_take_31 rfl (lv_at hl 1 rfl) ?_
  refine lv_dup hx hb dX9_take_32 rfl ?_
  refine va_get (D := (dC, dI)) (ci := 9) (v := .int 12) (C := RX9) (T := TX9) (N := 11) hx hb hts (by decide +kernel) hown hK hP 0 rfl rfl 6 (by decide) (hts (.fieldLink RX9 44 "ProofBench$Tape" "length" "I") (by decide +kernel)) (fun _ h9 => h9) rfl dX9_take_33 ?_
  refine lv_iconst (v := 1) hx hb dX9_take_36 (by decide) ?_
  refine lv_iadd hx hb dX9_take_37 ?_
  refine lv_topi (fun z_25 e9 => ?_)
  obtain rfl : z_25 = 13 := by rw [e9]; decide
  refine va_put (D := (dC, dI)) (ci := 9) (v := .int 13) (ty := .int) (C := RX9) (T := TX9) (N := 11) hx hb hts (by decide +kernel) tyX9 tyX9_ok nmX9 hown hK hP hD hS 0 rfl rfl 6 (by decide) (hts (.fieldLink RX9 44 "ProofBench$Tape" "length" "I") (by decide +kernel)) (fun _ h9 => h9) rfl (by decide +kernel) rfl rfl (Nat.le_of_ble_eq_true rfl) dX9_take_38 (fun H locs hP hD hS => ?_)
  have hP : va_P (dC, dI) vwCl [(h0, .inr (9, [.ref a1, .ref a2, .ref a3, .ref a4, .ref a5, .ref a6, .int 13, .int 0, .int 0, .int 0, .int 0])), (a1, .inl (cA1, 4000, .inl (f_24)))] H := hP
  have hD : va_D A [(h0, .inr (9, [.ref a1, .ref a2, .ref a3, .ref a4, .ref a5, .ref a6, .int 13, .int 0, .int 0, .int 0, .int 0])), (a1, .inl (cA1, 4000, .inl (f_24)))] := hD
  refine lv_iinc (v := 16) (lv' := [(3, .int 16), (0, .ref h0), (1, .long x)]) hx hb dX9_take_41 hl (k := 0) rfl (by decide) (by decide) rfl (fun ls hl => ?_)
  refine lv_goto (tgt := 3) hx hb dX9_take_44 (by decide) ?_
  refine lv_iload_n hx hb dX9_take_3 rfl (lv_at hl 0 rfl) ?_
  refine lv_if_lt (tgt := 47) hx hb dX9_take_4 (by decide) (fun c9 => absurd c9 (by decide)) (fun _ => ?_)
  refine lv_aload_n hx hb dX9_take_7 rfl (lv_at hl 1 rfl) ?_
  refine va_get (D := (dC, dI)) (ci := 9) (v := .int 13) (C := RX9) (T := TX9) (N := 11) hx hb hts (by decide +kernel) hown hK hP 0 rfl rfl 6 (by decide) (hts (.fieldLink RX9 44 "ProofBench$Tape" "length" "I") (by decide +kernel)) (fun _ h9 => h9) rfl dX9_take_8 ?_
  refine lv_sipush (v := 4000) hx hb dX9_take_11 (by decide) ?_
  refine lv_icmp_ge (tgt := 41) hx hb dX9_take_14 (by decide) (fun c9 => absurd c9 (by decide)) (fun _ => ?_)
  refine lv_aload_n hx hb dX9_take_17 rfl (lv_at hl 1 rfl) ?_
  refine va_get (D := (dC, dI)) (ci := 9) (v := .ref a1) (C := RX9) (T := TX9) (N := 11) hx hb hts (by decide +kernel) hown hK hP 0 rfl rfl 0 (by decide) (hts (.fieldLink RX9 9 "ProofBench$Tape" "bytes" "[B") (by decide +kernel)) (fun _ h9 => h9) rfl dX9_take_18 ?_
  refine lv_aload_n hx hb dX9_take_21 rfl (lv_at hl 1 rfl) ?_
  refine va_get (D := (dC, dI)) (ci := 9) (v := .int 13) (C := RX9) (T := TX9) (N := 11) hx hb hts (by decide +kernel) hown hK hP 0 rfl rfl 6 (by decide) (hts (.fieldLink RX9 44 "ProofBench$Tape" "length" "I") (by decide +kernel)) (fun _ h9 => h9) rfl dX9_take_22 ?_
  refine lv_lload_n hx hb dX9_take_25 rfl (lv_at hl 2 rfl) ?_
  refine lv_iload_n hx hb dX9_take_26 rfl (lv_at hl 0 rfl) ?_
  refine lv_lshr hx hb dX9_take_27 rfl ?_
  refine lv_topl (fun y_26 ey_26 => ?_)
  refine lv_l2i hx hb dX9_take_28 rfl ?_
  refine lv_topi (fun r_27 er_27 => ?_)
  refine lv_i2b hx hb dX9_take_29 rfl ?_
  refine lv_topi (fun r_28 er_28 => ?_)
  refine va_bast hx hb hK hP hD hS 1 0 rfl rfl (show vp_in (13) 4000 from by unfold vp_in; decide) dX9_take_30 (fun H locs hP hD hS => ?_)
  obtain ⟨f_29, hP, hD⟩ : ∃ f9 : Nat → Int32, va_P (dC, dI) vwCl [(h0, .inr (9, [.ref a1, .ref a2, .ref a3, .ref a4, .ref a5, .ref a6, .int 13, .int 0, .int 0, .int 0, .int 0])), (a1, .inl (cA1, 4000, .inl (f9)))] H ∧ va_D A [(h0, .inr (9, [.ref a1, .ref a2, .ref a3, .ref a4, .ref a5, .ref a6, .int 13, .int 0, .int 0, .int 0, .int 0])), (a1, .inl (cA1, 4000, .inl (f9)))] := ⟨_, hP, hD⟩
  refine lv_aload_n hx hb dX9_take_31 rfl (lv_at hl 1 rfl) ?_
  refine lv_dup hx hb dX9_take_32 rfl ?_
  refine va_get (D := (dC, dI)) (ci := 9) (v := .int 13) (C := RX9) (T := TX9) (N := 11) hx hb hts (by decide +kernel) hown hK hP 0 rfl rfl 6 (by decide) (hts (.fieldLink RX9 44 "ProofBench$Tape" "length" "I") (by decide +kernel)) (fun _ h9 => h9) rfl dX9_take_33 ?_
  refine lv_iconst (v := 1) hx hb dX9_take_36 (by decide) ?_
  refine lv_iadd hx hb dX9_take_37 ?_
  refine lv_topi (fun z_30 e9 => ?_)
  obtain rfl : z_30 = 14 := by rw [e9]; decide
  refine va_put (D := (dC, dI)) (ci := 9) (v := .int 14) (ty := .int) (C := RX9) (T := TX9) (N := 11) hx hb hts (by decide +kernel) tyX9 tyX9_ok nmX9 hown hK hP hD hS 0 rfl rfl 6 (by decide) (hts (.fieldLink RX9 44 "ProofBench$Tape" "length" "I") (by decide +kernel)) (fun _ h9 => h9) rfl (by decide +kernel) rfl rfl (Nat.le_of_ble_eq_true rfl) dX9_take_38 (fun H locs hP hD hS => ?_)
  have hP : va_P (dC, dI) vwCl [(h0, .inr (9, [.ref a1, .ref a2, .ref a3, .ref a4, .ref a5, .ref a6, .int 14, .int 0, .int 0, .int 0, .int 0])), (a1, .inl (cA1, 4000, .inl (f_29)))] H := hP
  have hD : va_D A [(h0, .inr (9, [.ref a1, .ref a2, .ref a3, .ref a4, .ref a5, .ref a6, .int 14, .int 0, .int 0, .int 0, .int 0])), (a1, .inl (cA1, 4000, .inl (f_29)))] := hD
  refine lv_iinc (v := 8) (lv' := [(3, .int 8), (0, .ref h0), (1, .long x)]) hx hb dX9_take_41 hl (k := 0) rfl (by decide) (by decide) rfl (fun ls hl => ?_)
  refine lv_goto (tgt := 3) hx hb dX9_take_44 (by decide) ?_
  refine lv_iload_n hx hb dX9_take_3 rfl (lv_at hl 0 rfl) ?_
  refine lv_if_lt (tgt := 47) hx hb dX9_take_4 (by decide) (fun c9 => absurd c9 (by decide)) (fun _ => ?_)
  refine lv_aload_n hx hb dX9_take_7 rfl (lv_at hl 1 rfl) ?_
  refine va_get (D := (dC, dI)) (ci := 9) (v := .int 14) (C := RX9) (T := TX9) (N := 11) hx hb hts (by decide +kernel) hown hK hP 0 rfl rfl 6 (by decide) (hts (.fieldLink RX9 44 "ProofBench$Tape" "length" "I") (by decide +kernel)) (fun _ h9 => h9) rfl dX9_take_8 ?_
  refine lv_sipush (v := 4000) hx hb dX9_take_11 (by decide) ?_
  refine lv_icmp_ge (tgt := 41) hx hb dX9_take_14 (by decide) (fun c9 => absurd c9 (by decide)) (fun _ => ?_)
  refine lv_aload_n hx hb dX9_take_17 rfl (lv_at hl 1 rfl) ?_
  refine va_get (D := (dC, dI)) (ci := 9) (v := .ref a1) (C := RX9) (T := TX9) (N := 11) hx hb hts (by decide +kernel) hown hK hP 0 rfl rfl 0 (by decide) (hts (.fieldLink RX9 9 "ProofBench$Tape" "bytes" "[B") (by decide +kernel)) (fun _ h9 => h9) rfl dX9_take_18 ?_
  refine lv_aload_n hx hb dX9_take_21 rfl (lv_at hl 1 rfl) ?_
  refine va_get (D := (dC, dI)) (ci := 9) (v := .int 14) (C := RX9) (T := TX9) (N := 11) hx hb hts (by decide +kernel) hown hK hP 0 rfl rfl 6 (by decide) (hts (.fieldLink RX9 44 "ProofBench$Tape" "length" "I") (by decide +kernel)) (fun _ h9 => h9) rfl dX9_take_22 ?_
  refine lv_lload_n hx hb dX9_take_25 rfl (lv_at hl 2 rfl) ?_
  refine lv_iload_n hx hb dX9_take_26 rfl (lv_at hl 0 rfl) ?_
  refine lv_lshr hx hb dX9_take_27 rfl ?_
  refine lv_topl (fun y_31 ey_31 => ?_)
  refine lv_l2i hx hb dX9_take_28 rfl ?_
  refine lv_topi (fun r_32 er_32 => ?_)
  refine lv_i2b hx hb dX9_take_29 rfl ?_
  refine lv_topi (fun r_33 er_33 => ?_)
  refine va_bast hx hb hK hP hD hS 1 0 rfl rfl (show vp_in (14) 4000 from by unfold vp_in; decide) dX9_take_30 (fun H locs hP hD hS => ?_)
  obtain ⟨f_34, hP, hD⟩ : ∃ f9 : Nat → Int32, va_P (dC, dI) vwCl [(h0, .inr (9, [.ref a1, .ref a2, .ref a3, .ref a4, .ref a5, .ref a6, .int 14, .int 0, .int 0, .int 0, .int 0])), (a1, .inl (cA1, 4000, .inl (f9)))] H ∧ va_D A [(h0, .inr (9, [.ref a1, .ref a2, .ref a3, .ref a4, .ref a5, .ref a6, .int 14, .int 0, .int 0, .int 0, .int 0])), (a1, .inl (cA1, 4000, .inl (f9)))] := ⟨_, hP, hD⟩
  refine lv_aload_n hx hb dX9_take_31 rfl (lv_at hl 1 rfl) ?_
  refine lv_dup hx hb dX9_take_32 rfl ?_
  refine va_get (D := (dC, dI)) (ci := 9) (v := .int 14) (C := RX9) (T := TX9) (N := 11) hx hb hts (by decide +kernel) hown hK hP 0 rfl rfl 6 (by decide) (hts (.fieldLink RX9 44 "ProofBench$Tape" "length" "I") (by decide +kernel)) (fun _ h9 => h9) rfl dX9_take_33 ?_
  refine lv_iconst (v := 1) hx hb dX9_take_36 (by decide) ?_
  refine lv_iadd hx hb dX9_take_37 ?_
  refine lv_topi (fun z_35 e9 => ?_)
  obtain rfl : z_35 = 15 := by rw [e9]; decide
  refine va_put (D := (dC, dI)) (ci := 9) (v := .int 15) (ty := .int) (C := RX9) (T := TX9) (N := 11) hx hb hts (by decide +kernel) tyX9 tyX9_ok nmX9 hown hK hP hD hS 0 rfl rfl 6 (by decide) (hts (.fieldLink RX9 44 "ProofBench$Tape" "length" "I") (by decide +kernel)) (fun _ h9 => h9) rfl (by decide +kernel) rfl rfl (Nat.le_of_ble_eq_true rfl) dX9_take_38 (fun H locs hP hD hS => ?_)
  have hP : va_P (dC, dI) vwCl [(h0, .inr (9, [.ref a1, .ref a2, .ref a3, .ref a4, .ref a5, .ref a6, .int 15, .int 0, .int 0, .int 0, .int 0])), (a1, .inl (cA1, 4000, .inl (f_34)))] H := hP
  have hD : va_D A [(h0, .inr (9, [.ref a1, .ref a2, .ref a3, .ref a4, .ref a5, .ref a6, .int 15, .int 0, .int 0, .int 0, .int 0])), (a1, .inl (cA1, 4000, .inl (f_34)))] := hD
  refine lv_iinc (v := 0) (lv' := [(3, .int 0), (0, .ref h0), (1, .long x)]) hx hb dX9_take_41 hl (k := 0) rfl (by decide) (by decide) rfl (fun ls hl => ?_)
  refine lv_goto (tgt := 3) hx hb dX9_take_44 (by decide) ?_
  refine lv_iload_n hx hb dX9_take_3 rfl (lv_at hl 0 rfl) ?_
  refine lv_if_lt (tgt := 47) hx hb dX9_take_4 (by decide) (fun c9 => absurd c9 (by decide)) (fun _ => ?_)
  refine lv_aload_n hx hb dX9_take_7 rfl (lv_at hl 1 rfl) ?_
  refine va_get (D := (dC, dI)) (ci := 9) (v := .int 15) (C := RX9) (T := TX9) (N := 11) hx hb hts (by decide +kernel) hown hK hP 0 rfl rfl 6 (by decide) (hts (.fieldLink RX9 44 "ProofBench$Tape" "length" "I") (by decide +kernel)) (fun _ h9 => h9) rfl dX9_take_8 ?_
  refine lv_sipush (v := 4000) hx hb dX9_take_11 (by decide) ?_
  refine lv_icmp_ge (tgt := 41) hx hb dX9_take_14 (by decide) (fun c9 => absurd c9 (by decide)) (fun _ => ?_)
  refine lv_aload_n hx hb dX9_take_17 rfl (lv_at hl 1 rfl) ?_
  refine va_get (D := (dC, dI)) (ci := 9) (v := .ref a1) (C := RX9) (T := TX9) (N := 11) hx hb hts (by decide +kernel) hown hK hP 0 rfl rfl 0 (by decide) (hts (.fieldLink RX9 9 "ProofBench$Tape" "bytes" "[B") (by decide +kernel)) (fun _ h9 => h9) rfl dX9_take_18 ?_
  refine lv_aload_n hx hb dX9_take_21 rfl (lv_at hl 1 rfl) ?_
  refine va_get (D := (dC, dI)) (ci := 9) (v := .int 15) (C := RX9) (T := TX9) (N := 11) hx hb hts (by decide +kernel) hown hK hP 0 rfl rfl 6 (by decide) (hts (.fieldLink RX9 44 "ProofBench$Tape" "length" "I") (by decide +kernel)) (fun _ h9 => h9) rfl dX9_take_22 ?_
  refine lv_lload_n hx hb dX9_take_25 rfl (lv_at hl 2 rfl) ?_
  refine lv_iload_n hx hb dX9_take_26 rfl (lv_at hl 0 rfl) ?_
  refine lv_lshr hx hb dX9_take_27 rfl ?_
  refine lv_topl (fun y_36 ey_36 => ?_)
  refine lv_l2i hx hb dX9_take_28 rfl ?_
  refine lv_topi (fun r_37 er_37 => ?_)
  refine lv_i2b hx hb dX9_take_29 rfl ?_
  refine lv_topi (fun r_38 er_38 => ?_)
  refine va_bast hx hb hK hP hD hS 1 0 rfl rfl (show vp_in (15) 4000 from by unfold vp_in; decide) dX9_take_30 (fun H locs hP hD hS => ?_)
  obtain ⟨f_39, hP, hD⟩ : ∃ f9 : Nat → Int32, va_P (dC, dI) vwCl [(h0, .inr (9, [.ref a1, .ref a2, .ref a3, .ref a4, .ref a5, .ref a6, .int 15, .int 0, .int 0, .int 0, .int 0])), (a1, .inl (cA1, 4000, .inl (f9)))] H ∧ va_D A [(h0, .inr (9, [.ref a1, .ref a2, .ref a3, .ref a4, .ref a5, .ref a6, .int 15, .int 0, .int 0, .int 0, .int 0])), (a1, .inl (cA1, 4000, .inl (f9)))] := ⟨_, hP, hD⟩
  refine lv_aload_n hx hb dX9_take_31 rfl (lv_at hl 1 rfl) ?_
  refine lv_dup hx hb dX9_take_32 rfl ?_
  refine va_get (D := (dC, dI)) (ci := 9) (v := .int 15) (C := RX9) (T := TX9) (N := 11) hx hb hts (by decide +kernel) hown hK hP 0 rfl rfl 6 (by decide) (hts (.fieldLink RX9 44 "ProofBench$Tape" "length" "I") (by decide +kernel)) (fun _ h9 => h9) rfl dX9_take_33 ?_
  refine lv_iconst (v := 1) hx hb dX9_take_36 (by decide) ?_
  refine lv_iadd hx hb dX9_take_37 ?_
  refine lv_topi (fun z_40 e9 => ?_)
  obtain rfl : z_40 = 16 := by rw [e9]; decide
  refine va_put (D := (dC, dI)) (ci := 9) (v := .int 16) (ty := .int) (C := RX9) (T := TX9) (N := 11) hx hb hts (by decide +kernel) tyX9 tyX9_ok nmX9 hown hK hP hD hS 0 rfl rfl 6 (by decide) (hts (.fieldLink RX9 44 "ProofBench$Tape" "length" "I") (by decide +kernel)) (fun _ h9 => h9) rfl (by decide +kernel) rfl rfl (Nat.le_of_ble_eq_true rfl) dX9_take_38 (fun H locs hP hD hS => ?_)
  have hP : va_P (dC, dI) vwCl [(h0, .inr (9, [.ref a1, .ref a2, .ref a3, .ref a4, .ref a5, .ref a6, .int 16, .int 0, .int 0, .int 0, .int 0])), (a1, .inl (cA1, 4000, .inl (f_39)))] H := hP
  have hD : va_D A [(h0, .inr (9, [.ref a1, .ref a2, .ref a3, .ref a4, .ref a5, .ref a6, .int 16, .int 0, .int 0, .int 0, .int 0])), (a1, .inl (cA1, 4000, .inl (f_39)))] := hD
  refine lv_iinc (v := -8) (lv' := [(3, .int (-8)), (0, .ref h0), (1, .long x)]) hx hb dX9_take_41 hl (k := 0) rfl (by decide) (by decide) rfl (fun ls hl => ?_)
  refine lv_goto (tgt := 3) hx hb dX9_take_44 (by decide) ?_
  refine lv_iload_n hx hb dX9_take_3 rfl (lv_at hl 0 rfl) ?_
  refine lv_if_lt (tgt := 47) hx hb dX9_take_4 (by decide) (fun _ => ?_) (fun c9 => absurd c9 (by decide))
  have hP9 := hP.sub (ws' := [(h0, .inr (9, [.ref a1, .ref a2, .ref a3, .ref a4, .ref a5, .ref a6, .int 16, .int 0, .int 0, .int 0, .int 0])), (a1, .inl (cA1, 4000, .inl (f_39)))]) [0, 1] rfl
  have hD9 := hD.sub (ws' := [(h0, .inr (9, [.ref a1, .ref a2, .ref a3, .ref a4, .ref a5, .ref a6, .int 16, .int 0, .int 0, .int 0, .int 0])), (a1, .inl (cA1, 4000, .inl (f_39)))]) [0, 1] (by decide) rfl
  have hK9 := hK.sub (tys' := [(cA1, .byte)]) [0] rfl
  refine W.widen (k := 0) (n := 0) (by omega) (by omega) ?_
  exact W.vret hx hb hr (fun t ht hW => ⟨⟨(), rfl, trivial, f_39, by rw [ht]; exact hP9, va_K.moved hW.alike hK9, hD9⟩, hS.F ht⟩) hS.2.2 dX9_take_47
set_option maxHeartbeats 1000000 in
set_option maxRecDepth 100000 in
/-- take(x): eight bytes behind 16 -/
theorem c_take_16 (l : Launch) (dC : Nat → ClassId) (dI : Nat → Nat → Nat) (sz : Nat) (h0 a1 a2 a3 a4 a5 a6 : Nat) (cA1 : ClassId) (g1 : Nat → Int32) (x : Int64) : Met l yX9_take wc_X9_take ({ frames := 0, cells := 0, slots := 0, locals := 0 }) (va_Pc [.ref h0, .long x] (fun U => U.heap.size = sz ∧ va_P (dC, dI) vwCl [(h0, .inr (9, [.ref a1, .ref a2, .ref a3, .ref a4, .ref a5, .ref a6, .int 16, .int 0, .int 0, .int 0, .int 0])), (a1, .inl (cA1, 4000, .inl (g1)))] U.heap ∧ va_K (dC, dI) vwCl [(cA1, .byte)] U ∧ va_D (fun _ => True) [(h0, .inr (9, [.ref a1, .ref a2, .ref a3, .ref a4, .ref a5, .ref a6, .int 16, .int 0, .int 0, .int 0, .int 0])), (a1, .inl (cA1, 4000, .inl (g1)))])) (va_Qv (fun _ : Unit => True) (fun _ t => ∃ (k9 : Nat → Int32), va_P (dC, dI) vwCl [(h0, .inr (9, [.ref a1, .ref a2, .ref a3, .ref a4, .ref a5, .ref a6, .int 24, .int 0, .int 0, .int 0, .int 0])), (a1, .inl (cA1, 4000, .inl (k9)))] t.heap ∧ va_K (dC, dI) vwCl [(cA1, .byte)] t ∧ va_D (va_A [(h0, .inr (9, [.ref a1, .ref a2, .ref a3, .ref a4, .ref a5, .ref a6, .int 16, .int 0, .int 0, .int 0, .int 0])), (a1, .inl (cA1, 4000, .inl (g1)))] sz) [(h0, .inr (9, [.ref a1, .ref a2, .ref a3, .ref a4, .ref a5, .ref a6, .int 24, .int 0, .int 0, .int 0, .int 0])), (a1, .inl (cA1, 4000, .inl (k9)))]) (va_A [(h0, .inr (9, [.ref a1, .ref a2, .ref a3, .ref a4, .ref a5, .ref a6, .int 16, .int 0, .int 0, .int 0, .int 0])), (a1, .inl (cA1, 4000, .inl (g1)))] sz)) (0) (0) (va_A [(h0, .inr (9, [.ref a1, .ref a2, .ref a3, .ref a4, .ref a5, .ref a6, .int 16, .int 0, .int 0, .int 0, .int 0])), (a1, .inl (cA1, 4000, .inl (g1)))] sz) := by
  refine Met.ofW (cc := cX9_take) (maxL := 4) (ret := none) (by decide) rfl ?_
  intro p e s m args below meth c s₁ B hml hv
  obtain ⟨rfl, hsz, hP, hK, hD0⟩ := hv
  have hx := B.exec
  have hb := B.bytes
  have hr := B.returns
  have hts := atoms_spec (ws := wc_X9_take) B.pre
  have hown : s.vm.findClass RX9 = some m.cls := findClass_of_methodNamed B.named
  have hlocks := B.notSynchronized
  subst hsz
  have hD := hD0.self (sz := s.heap.size)
  generalize hAe : va_A [(h0, .inr (9, [.ref a1, .ref a2, .ref a3, .ref a4, .ref a5, .ref a6, .int 16, .int 0, .int 0, .int 0, .int 0])), (a1, .inl (cA1, 4000, .inl (g1)))] s.heap.size = A at hD ⊢
  have hA : ∀ q : Nat, s.heap.size ≤ q → A q := fun q h => by rw [← hAe]; exact Or.inr h
  have hS : va_S A s.heap s.heap [] := va_S.rf
  have hl := lv_entry ([.ref h0, .long x]) (n := 4) (Nat.le_of_ble_eq_true rfl)
  rw [lg_entry_eq]
  generalize (lg_sl ([.ref h0, .long x]) ++ List.replicate (4 - (lg_sl ([.ref h0, .long x])).length) Slot.unset).toArray = ls at hl ⊢
  have hl : lv_has ls 4 [(0, .ref h0), (1, .long x)] := hl
  refine lv_bipush (v := 56) hx hb dX9_take_0 (by decide) ?_
  refine lv_istore_n (lv' := [(3, .int 56), (0, .ref h0), (1, .long x)]) hx hb dX9_take_2 rfl hl (by decide) rfl (fun ls hl => ?_)
  refine lv_iload_n hx hb dX9_take_3 rfl (lv_at hl 0 rfl) ?_
  refine lv_if_lt (tgt := 47) hx hb dX9_take_4 (by decide) (fun c9 => absurd c9 (by decide)) (fun _ => ?_)
  refine lv_aload_n hx hb dX9_take_7 rfl (lv_at hl 1 rfl) ?_
  refine va_get (D := (dC, dI)) (ci := 9) (v := .int 16) (C := RX9) (T := TX9) (N := 11) hx hb hts (by decide +kernel) hown hK hP 0 rfl rfl 6 (by decide) (hts (.fieldLink RX9 44 "ProofBench$Tape" "length" "I") (by decide +kernel)) (fun _ h9 => h9) rfl dX9_take_8 ?_
  refine lv_sipush (v := 4000) hx hb dX9_take_11 (by decide) ?_
  refine lv_icmp_ge (tgt := 41) hx hb dX9_take_14 (by decide) (fun c9 => absurd c9 (by decide)) (fun _ => ?_)
  refine lv_aload_n hx hb dX9_take_17 rfl (lv_at hl 1 rfl) ?_
  refine va_get (D := (dC, dI)) (ci := 9) (v := .ref a1) (C := RX9) (T := TX9) (N := 11) hx hb hts (by decide +kernel) hown hK hP 0 rfl rfl 0 (by decide) (hts (.fieldLink RX9 9 "ProofBench$Tape" "bytes" "[B") (by decide +kernel)) (fun _ h9 => h9) rfl dX9_take_18 ?_
  refine lv_aload_n hx hb dX9_take_21 rfl (lv_at hl 1 rfl) ?_
  refine va_get (D := (dC, dI)) (ci := 9) (v := .int 16) (C := RX9) (T := TX9) (N := 11) hx hb hts (by decide +kernel) hown hK hP 0 rfl rfl 6 (by decide) (hts (.fieldLink RX9 44 "ProofBench$Tape" "length" "I") (by decide +kernel)) (fun _ h9 => h9) rfl dX9_take_22 ?_
  refine lv_lload_n hx hb dX9_take_25 rfl (lv_at hl 2 rfl) ?_
  refine lv_iload_n hx hb dX9_take_26 rfl (lv_at hl 0 rfl) ?_
  refine lv_lshr hx hb dX9_take_27 rfl ?_
  refine lv_topl (fun y_1 ey_1 => ?_)
  refine lv_l2i hx hb dX9_take_28 rfl ?_
  refine lv_topi (fun r_2 er_2 => ?_)
  refine lv_i2b hx hb dX9_take_29 rfl ?_
  refine lv_topi (fun r_3 er_3 => ?_)
  refine va_bast hx hb hK hP hD hS 1 0 rfl rfl (show vp_in (16) 4000 from by unfold vp_in; decide) dX9_take_30 (fun H locs hP hD hS => ?_)
  obtain ⟨f_4, hP, hD⟩ : ∃ f9 : Nat → Int32, va_P (dC, dI) vwCl [(h0, .inr (9, [.ref a1, .ref a2, .ref a3, .ref a4, .ref a5, .ref a6, .int 16, .int 0, .int 0, .int 0, .int 0])), (a1, .inl (cA1, 4000, .inl (f9)))] H ∧ va_D A [(h0, .inr (9, [.ref a1, .ref a2, .ref a3, .ref a4, .ref a5, .ref a6, .int 16, .int 0, .int 0, .int 0, .int 0])), (a1, .inl (cA1, 4000, .inl (f9)))] := ⟨_, hP, hD⟩
  refine lv_aload_n hx hb dX9_take_31 rfl (lv_at hl 1 rfl) ?_
  refine lv_dup hx hb dX9_take_32 rfl ?_
  refine va_get (D := (dC, dI)) (ci := 9) (v := .int 16) (C := RX9) (T := TX9) (N := 11) hx hb hts (by decide +kernel) hown hK hP 0 rfl rfl 6 (by decide) (hts (.fieldLink RX9 44 "ProofBench$Tape" "length" "I") (by decide +kernel)) (fun _ h9 => h9) rfl dX9_take_33 ?_
  refine lv_iconst (v := 1) hx hb dX9_take_36 (by decide) ?_
  refine lv_iadd hx hb dX9_take_37 ?_
  refine lv_topi (fun z_5 e9 => ?_)
  obtain rfl : z_5 = 17 := by rw [e9]; decide
  refine va_put (D := (dC, dI)) (ci := 9) (v := .int 17) (ty := .int) (C := RX9) (T := TX9) (N := 11) hx hb hts (by decide +kernel) tyX9 tyX9_ok nmX9 hown hK hP hD hS 0 rfl rfl 6 (by decide) (hts (.fieldLink RX9 44 "ProofBench$Tape" "length" "I") (by decide +kernel)) (fun _ h9 => h9) rfl (by decide +kernel) rfl rfl (Nat.le_of_ble_eq_true rfl) dX9_take_38 (fun H locs hP hD hS => ?_)
  have hP : va_P (dC, dI) vwCl [(h0, .inr (9, [.ref a1, .ref a2, .ref a3, .ref a4, .ref a5, .ref a6, .int 17, .int 0, .int 0, .int 0, .int 0])), (a1, .inl (cA1, 4000, .inl (f_4)))] H := hP
  have hD : va_D A [(h0, .inr (9, [.ref a1, .ref a2, .ref a3, .ref a4, .ref a5, .ref a6, .int 17, .int 0, .int 0, .int 0, .int 0])), (a1, .inl (cA1, 4000, .inl (f_4)))] := hD
  refine lv_iinc (v := 48) (lv' := [(3, .int 48), (0, .ref h0), (1, .long x)]) hx hb dX9_take_41 hl (k := 0) rfl (by decide) (by decide) rfl (fun ls hl => ?_)
  refine lv_goto (tgt := 3) hx hb dX9_take_44 (by decide) ?_
  refine lv_iload_n hx hb dX9_take_3 rfl (lv_at hl 0 rfl) ?_
  refine lv_if_lt (tgt := 47) hx hb dX9_take_4 (by decide) (fun c9 => absurd c9 (by decide)) (fun _ => ?_)
  refine lv_aload_n hx hb dX9_take_7 rfl (lv_at hl 1 rfl) ?_
  refine va_get (D := (dC, dI)) (ci := 9) (v := .int 17) (C := RX9) (T := TX9) (N := 11) hx hb hts (by decide +kernel) hown hK hP 0 rfl rfl 6 (by decide) (hts (.fieldLink RX9 44 "ProofBench$Tape" "length" "I") (by decide +kernel)) (fun _ h9 => h9) rfl dX9_take_8 ?_
  refine lv_sipush (v := 4000) hx hb dX9_take_11 (by decide) ?_
  refine lv_icmp_ge (tgt := 41) hx hb dX9_take_14 (by decide) (fun c9 => absurd c9 (by decide)) (fun _ => ?_)
  refine lv_aload_n hx hb dX9_take_17 rfl (lv_at hl 1 rfl) ?_
  refine va_get (D := (dC, dI)) (ci := 9) (v := .ref a1) (C := RX9) (T := TX9) (N := 11) hx hb hts (by decide +kernel) hown hK hP 0 rfl rfl 0 (by decide) (hts (.fieldLink RX9 9 "ProofBench$Tape" "bytes" "[B") (by decide +kernel)) (fun _ h9 => h9) rfl dX9_take_18 ?_
  refine lv_aload_n hx hb dX9_take_21 rfl (lv_at hl 1 rfl) ?_
  refine va_get (D := (dC, dI)) (ci := 9) (v := .int 17) (C := RX9) (T := TX9) (N := 11) hx hb hts (by decide +kernel) hown hK hP 0 rfl rfl 6 (by decide) (hts (.fieldLink RX9 44 "ProofBench$Tape" "length" "I") (by decide +kernel)) (fun _ h9 => h9) rfl dX9_take_22 ?_
  refine lv_lload_n hx hb dX9_take_25 rfl (lv_at hl 2 rfl) ?_
  refine lv_iload_n hx hb dX9_take_26 rfl (lv_at hl 0 rfl) ?_
  refine lv_lshr hx hb dX9_take_27 rfl ?_
  refine lv_topl (fun y_6 ey_6 => ?_)
  refine lv_l2i hx hb dX9_take_28 rfl ?_
  refine lv_topi (fun r_7 er_7 => ?_)
  refine lv_i2b hx hb dX9_take_29 rfl ?_
  refine lv_topi (fun r_8 er_8 => ?_)
  refine va_bast hx hb hK hP hD hS 1 0 rfl rfl (show vp_in (17) 4000 from by unfold vp_in; decide) dX9_take_30 (fun H locs hP hD hS => ?_)
  obtain ⟨f_9, hP, hD⟩ : ∃ f9 : Nat → Int32, va_P (dC, dI) vwCl [(h0, .inr (9, [.ref a1, .ref a2, .ref a3, .ref a4, .ref a5, .ref a6, .int 17, .int 0, .int 0, .int 0, .int 0])), (a1, .inl (cA1, 4000, .inl (f9)))] H ∧ va_D A [(h0, .inr (9, [.ref a1, .ref a2, .ref a3, .ref a4, .ref a5, .ref a6, .int 17, .int 0, .int 0, .int 0, .int 0])), (a1, .inl (cA1, 4000, .inl (f9)))] := ⟨_, hP, hD⟩
  refine lv_aload_n hx hb dX9_take_31 rfl (lv_at hl 1 rfl) ?_
  refine lv_dup hx hb dX9_take_32 rfl ?_
  refine va_get (D := (dC, dI)) (ci := 9) (v := .int 17) (C := RX9) (T := TX9) (N := 11) hx hb hts (by decide +kernel) hown hK hP 0 rfl rfl 6 (by decide) (hts (.fieldLink RX9 44 "ProofBench$Tape" "length" "I") (by decide +kernel)) (fun _ h9 => h9) rfl dX9_take_33 ?_
  refine lv_iconst (v := 1) hx hb dX9_take_36 (by decide) ?_
  refine lv_iadd hx hb dX9_take_37 ?_
  refine lv_topi (fun z_10 e9 => ?_)
  obtain rfl : z_10 = 18 := by rw [e9]; decide
  refine va_put (D := (dC, dI)) (ci := 9) (v := .int 18) (ty := .int) (C := RX9) (T := TX9) (N := 11) hx hb hts (by decide +kernel) tyX9 tyX9_ok nmX9 hown hK hP hD hS 0 rfl rfl 6 (by decide) (hts (.fieldLink RX9 44 "ProofBench$Tape" "length" "I") (by decide +kernel)) (fun _ h9 => h9) rfl (by decide +kernel) rfl rfl (Nat.le_of_ble_eq_true rfl) dX9_take_38 (fun H locs hP hD hS => ?_)
  have hP : va_P (dC, dI) vwCl [(h0, .inr (9, [.ref a1, .ref a2, .ref a3, .ref a4, .ref a5, .ref a6, .int 18, .int 0, .int 0, .int 0, .int 0])), (a1, .inl (cA1, 4000, .inl (f_9)))] H := hP
  have hD : va_D A [(h0, .inr (9, [.ref a1, .ref a2, .ref a3, .ref a4, .ref a5, .ref a6, .int 18, .int 0, .int 0, .int 0, .int 0])), (a1, .inl (cA1, 4000, .inl (f_9)))] := hD
  refine lv_iinc (v := 40) (lv' := [(3, .int 40), (0, .ref h0), (1, .long x)]) hx hb dX9_take_41 hl (k := 0) rfl (by decide) (by decide) rfl (fun ls hl => ?_)
  refine lv_goto (tgt := 3) hx hb dX9_take_44 (by decide) ?_
  refine lv_iload_n hx hb dX9_take_3 rfl (lv_at hl 0 rfl) ?_
  refine lv_if_lt (tgt := 47) hx hb dX9_take_4 (by decide) (fun c9 => absurd c9 (by decide)) (fun _ => ?_)
  refine lv_aload_n hx hb dX9_take_7 rfl (lv_at hl 1 rfl) ?_
  refine va_get (D := (dC, dI)) (ci := 9) (v := .int 18) (C := RX9) (T := TX9) (N := 11) hx hb hts (by decide +kernel) hown hK hP 0 rfl rfl 6 (by decide) (hts (.fieldLink RX9 44 "ProofBench$Tape" "length" "I") (by decide +kernel)) (fun _ h9 => h9) rfl dX9_take_8 ?_
  refine lv_sipush (v := 4000) hx hb dX9_take_11 (by decide) ?_
  refine lv_icmp_ge (tgt := 41) hx hb dX9_take_14 (by decide) (fun c9 => absurd c9 (by decide)) (fun _ => ?_)
  refine lv_aload_n hx hb dX9_take_17 rfl (lv_at hl 1 rfl) ?_
  refine va_get (D := (dC, dI)) (ci := 9) (v := .ref a1) (C := RX9) (T := TX9) (N := 11) hx hb hts (by decide +kernel) hown hK hP 0 rfl rfl 0 (by decide) (hts (.fieldLink RX9 9 "ProofBench$Tape" "bytes" "[B") (by decide +kernel)) (fun _ h9 => h9) rfl dX9_take_18 ?_
  refine lv_aload_n hx hb dX9_take_21 rfl (lv_at hl 1 rfl) ?_
  refine va_get (D := (dC, dI)) (ci := 9) (v := .int 18) (C := RX9) (T := TX9) (N := 11) hx hb hts (by decide +kernel) hown hK hP 0 rfl rfl 6 (by decide) (hts (.fieldLink RX9 44 "ProofBench$Tape" "length" "I") (by decide +kernel)) (fun _ h9 => h9) rfl dX9_take_22 ?_
  refine lv_lload_n hx hb dX9_take_25 rfl (lv_at hl 2 rfl) ?_
  refine lv_iload_n hx hb dX9_take_26 rfl (lv_at hl 0 rfl) ?_
  refine lv_lshr hx hb dX9_take_27 rfl ?_
  refine lv_topl (fun y_11 ey_11 => ?_)
  refine lv_l2i hx hb dX9_take_28 rfl ?_
  refine lv_topi (fun r_12 er_12 => ?_)
  refine lv_i2b hx hb dX9_take_29 rfl ?_
  refine lv_topi (fun r_13 er_13 => ?_)
  refine va_bast hx hb hK hP hD hS 1 0 rfl rfl (show vp_in (18) 4000 from by unfold vp_in; decide) dX9_take_30 (fun H locs hP hD hS => ?_)
  obtain ⟨f_14, hP, hD⟩ : ∃ f9 : Nat → Int32, va_P (dC, dI) vwCl [(h0, .inr (9, [.ref a1, .ref a2, .ref a3, .ref a4, .ref a5, .ref a6, .int 18, .int 0, .int 0, .int 0, .int 0])), (a1, .inl (cA1, 4000, .inl (f9)))] H ∧ va_D A [(h0, .inr (9, [.ref a1, .ref a2, .ref a3, .ref a4, .ref a5, .ref a6, .int 18, .int 0, .int 0, .int 0, .int 0])), (a1, .inl (cA1, 4000, .inl (f9)))] := ⟨_, hP, hD⟩
  refine lv_aload_n hx hb dX9_take_31 rfl (lv_at hl 1 rfl) ?_
  refine lv_dup hx hb dX9_take_32 rfl ?_
  refine va_get (D := (dC, dI)) (ci := 9) (v := .int 18) (C := RX9) (T := TX9) (N := 11) hx hb hts (by decide +kernel) hown hK hP 0 rfl rfl 6 (by decide) (hts (.fieldLink RX9 44 "ProofBench$Tape" "length" "I") (by decide +kernel)) (fun _ h9 => h9) rfl dX9_take_33 ?_
  refine lv_iconst (v := 1) hx hb dX9_take_36 (by decide) ?_
  refine lv_iadd hx hb dX9_take_37 ?_
  refine lv_topi (fun z_15 e9 => ?_)
  obtain rfl : z_15 = 19 := by rw [e9]; decide
  refine va_put (D := (dC, dI)) (ci := 9) (v := .int 19) (ty := .int) (C := RX9) (T := TX9) (N := 11) hx hb hts (by decide +kernel) tyX9 tyX9_ok nmX9 hown hK hP hD hS 0 rfl rfl 6 (by decide) (hts (.fieldLink RX9 44 "ProofBench$Tape" "length" "I") (by decide +kernel)) (fun _ h9 => h9) rfl (by decide +kernel) rfl rfl (Nat.le_of_ble_eq_true rfl) dX9_take_38 (fun H locs hP hD hS => ?_)
  have hP : va_P (dC, dI) vwCl [(h0, .inr (9, [.ref a1, .ref a2, .ref a3, .ref a4, .ref a5, .ref a6, .int 19, .int 0, .int 0, .int 0, .int 0])), (a1, .inl (cA1, 4000, .inl (f_14)))] H := hP
  have hD : va_D A [(h0, .inr (9, [.ref a1, .ref a2, .ref a3, .ref a4, .ref a5, .ref a6, .int 19, .int 0, .int 0, .int 0, .int 0])), (a1, .inl (cA1, 4000, .inl (f_14)))] := hD
  refine lv_iinc (v := 32) (lv' := [(3, .int 32), (0, .ref h0), (1, .long x)]) hx hb dX9_take_41 hl (k := 0) rfl (by decide) (by decide) rfl (fun ls hl => ?_)
  refine lv_goto (tgt := 3) hx hb dX9_take_44 (by decide) ?_
  refine lv_iload_n hx hb dX9_take_3 rfl (lv_at hl 0 rfl) ?_
  refine lv_if_lt (tgt := 47) hx hb dX9_take_4 (by decide) (fun c9 => absurd c9 (by decide)) (fun _ => ?_)
  refine lv_aload_n hx hb dX9_take_7 rfl (lv_at hl 1 rfl) ?_
  refine va_get (D := (dC, dI)) (ci := 9) (v := .int 19) (C := RX9) (T := TX9) (N := 11) hx hb hts (by decide +kernel) hown hK hP 0 rfl rfl 6 (by decide) (hts (.fieldLink RX9 44 "ProofBench$Tape" "length" "I") (by decide +kernel)) (fun _ h9 => h9) rfl dX9_take_8 ?_
  refine lv_sipush (v := 4000) hx hb dX9_take_11 (by decide) ?_
  refine lv_icmp_ge (tgt := 41) hx hb dX9_take_14 (by decide) (fun c9 => absurd c9 (by decide)) (fun _ => ?_)
  refine lv_aload_n hx hb dX9_take_17 rfl (lv_at hl 1 rfl) ?_
  refine va_get (D := (dC, dI)) (ci := 9) (v := .ref a1) (C := RX9) (T := TX9) (N := 11) hx hb hts (by decide +kernel) hown hK hP 0 rfl rfl 0 (by decide) (hts (.fieldLink RX9 9 "ProofBench$Tape" "bytes" "[B") (by decide +kernel)) (fun _ h9 => h9) rfl dX9_take_18 ?_
  refine lv_aload_n hx hb dX9_take_21 rfl (lv_at hl 1 rfl) ?_
  refine va_get (D := (dC, dI)) (ci := 9) (v := .int 19) (C := RX9) (T := TX9) (N := 11) hx hb hts (by decide +kernel) hown hK hP 0 rfl rfl 6 (by decide) (hts (.fieldLink RX9 44 "ProofBench$Tape" "length" "I") (by decide +kernel)) (fun _ h9 => h9) rfl dX9_take_22 ?_
  refine lv_lload_n hx hb dX9_take_25 rfl (lv_at hl 2 rfl) ?_
  refine lv_iload_n hx hb dX9_take_26 rfl (lv_at hl 0 rfl) ?_
  refine lv_lshr hx hb dX9_take_27 rfl ?_
  refine lv_topl (fun y_16 ey_16 => ?_)
  refine lv_l2i hx hb dX9_take_28 rfl ?_
  refine lv_topi (fun r_17 er_17 => ?_)
  refine lv_i2b hx hb dX9_take_29 rfl ?_
  refine lv_topi (fun r_18 er_18 => ?_)
  refine va_bast hx hb hK hP hD hS 1 0 rfl rfl (show vp_in (19) 4000 from by unfold vp_in; decide) dX9_take_30 (fun H locs hP hD hS => ?_)
  obtain ⟨f_19, hP, hD⟩ : ∃ f9 : Nat → Int32, va_P (dC, dI) vwCl [(h0, .inr (9, [.ref a1, .ref a2, .ref a3, .ref a4, .ref a5, .ref a6, .int 19, .int 0, .int 0, .int 0, .int 0])), (a1, .inl (cA1, 4000, .inl (f9)))] H ∧ va_D A [(h0, .inr (9, [.ref a1, .ref a2, .ref a3, .ref a4, .ref a5, .ref a6, .int 19, .int 0, .int 0, .int 0, .int 0])), (a1, .inl (cA1, 4000, .inl (f9)))] := ⟨_, hP, hD⟩
  refine lv_aload_n hx hb dX9_take_31 rfl (lv_at hl 1 rfl) ?_
  refine lv_dup hx hb dX9_take_32 rfl ?_
  refine va_get (D := (dC, dI)) (ci := 9) (v := .int 19) (C := RX9) (T := TX9) (N := 11) hx hb hts (by decide +kernel) hown hK hP 0 rfl rfl 6 (by decide) (hts (.fieldLink RX9 44 "ProofBench$Tape" "length" "I") (by decide +kernel)) (fun _ h9 => h9) rfl dX9_take_33 ?_
  refine lv_iconst (v := 1) hx hb dX9_take_36 (by decide) ?_
  refine lv_iadd hx hb dX9_take_37 ?_
  refine lv_topi (fun z_20 e9 => ?_)
  obtain rfl : z_20 = 20 := by rw [e9]; decide
  refine va_put (D := (dC, dI)) (ci := 9) (v := .int 20) (ty := .int) (C := RX9) (T := TX9) (N := 11) hx hb hts (by decide +kernel) tyX9 tyX9_ok nmX9 hown hK hP hD hS 0 rfl rfl 6 (by decide) (hts (.fieldLink RX9 44 "ProofBench$Tape" "length" "I") (by decide +kernel)) (fun _ h9 => h9) rfl (by decide +kernel) rfl rfl (Nat.le_of_ble_eq_true rfl) dX9_take_38 (fun H locs hP hD hS => ?_)
  have hP : va_P (dC, dI) vwCl [(h0, .inr (9, [.ref a1, .ref a2, .ref a3, .ref a4, .ref a5, .ref a6, .int 20, .int 0, .int 0, .int 0, .int 0])), (a1, .inl (cA1, 4000, .inl (f_19)))] H := hP
  have hD : va_D A [(h0, .inr (9, [.ref a1, .ref a2, .ref a3, .ref a4, .ref a5, .ref a6, .int 20, .int 0, .int 0, .int 0, .int 0])), (a1, .inl (cA1, 4000, .inl (f_19)))] := hD
  refine lv_iinc (v := 24) (lv' := [(3, .int 24), (0, .ref h0), (1, .long x)]) hx hb dX9_take_41 hl (k := 0) rfl (by decide) (by decide) rfl (fun ls hl => ?_)
  refine lv_goto (tgt := 3) hx hb dX9_take_44 (by decide) ?_
  refine lv_iload_n hx hb dX9_take_3 rfl (lv_at hl 0 rfl) ?_
  refine lv_if_lt (tgt := 47) hx hb dX9_take_4 (by decide) (fun c9 => absurd c9 (by decide)) (fun _ => ?_)
  refine lv_aload_n hx hb dX9_take_7 rfl (lv_at hl 1 rfl) ?_
  refine va_get (D := (dC, dI)) (ci := 9) (v := .int 20) (C := RX9) (T := TX9) (N := 11) hx hb hts (by decide +kernel) hown hK hP 0 rfl rfl 6 (by decide) (hts (.fieldLink RX9 44 "ProofBench$Tape" "length" "I") (by decide +kernel)) (fun _ h9 => h9) rfl dX9_take_8 ?_
  refine lv_sipush (v := 4000) hx hb dX9_take_11 (by decide) ?_
  refine lv_icmp_ge (tgt := 41) hx hb dX9_take_14 (by decide) (fun c9 => absurd c9 (by decide)) (fun _ => ?_)
  refine lv_aload_n hx hb dX9_take_17 rfl (lv_at hl 1 rfl) ?_
  refine va_get (D := (dC, dI)) (ci := 9) (v := .ref a1) (C := RX9) (T := TX9) (N := 11) hx hb hts (by decide +kernel) hown hK hP 0 rfl rfl 0 (by decide) (hts (.fieldLink RX9 9 "ProofBench$Tape" "bytes" "[B") (by decide +kernel)) (fun _ h9 => h9) rfl dX9_take_18 ?_
  refine lv_aload_n hx hb dX9_take_21 rfl (lv_at hl 1 rfl) ?_
  refine va_get (D := (dC, dI)) (ci := 9) (v := .int 20) (C := RX9) (T := TX9) (N := 11) hx hb hts (by decide +kernel) hown hK hP 0 rfl rfl 6 (by decide) (hts (.fieldLink RX9 44 "ProofBench$Tape" "length" "I") (by decide +kernel)) (fun _ h9 => h9) rfl dX9_take_22 ?_
  refine lv_lload_n hx hb dX9_take_25 rfl (lv_at hl 2 rfl) ?_
  refine lv_iload_n hx hb dX9_take_26 rfl (lv_at hl 0 rfl) ?_
  refine lv_lshr hx hb dX9_take_27 rfl ?_
  refine lv_topl (fun y_21 ey_21 => ?_)
  refine lv_l2i hx hb dX9_take_28 rfl ?_
  refine lv_topi (fun r_22 er_22 => ?_)
  refine lv_i2b hx hb dX9_take_29 rfl ?_
  refine lv_topi (fun r_23 er_23 => ?_)
  refine va_bast hx hb hK hP hD hS 1 0 rfl rfl (show vp_in (20) 4000 from by unfold vp_in; decide) dX9_take_30 (fun H locs hP hD hS => ?_)
  obtain ⟨f_24, hP, hD⟩ : ∃ f9 : Nat → Int32, va_P (dC, dI) vwCl [(h0, .inr (9, [.ref a1, .ref a2, .ref a3, .ref a4, .ref a5, .ref a6, .int 20, .int 0, .int 0, .int 0, .int 0])), (a1, .inl (cA1, 4000, .inl (f9)))] H ∧ va_D A [(h0, .inr (9, [.ref a1, .ref a2, .ref a3, .ref a4, .ref a5, .ref a6, .int 20, .int 0, .int 0, .int 0, .int 0])), (a1, .inl (cA1, 4000, .inl (f9)))] := ⟨_, hP, hD⟩
  refine lv_aload_n hx hb dX9_take_31 rfl (lv_at hl 1 rfl) ?_
  refine lv_dup hx hb dX9_take_32 rfl ?_
  refine va_get (D := (dC, dI)) (ci := 9) (v := .int 20) (C := RX9) (T := TX9) (N := 11) hx hb hts (by decide +kernel) hown hK hP 0 rfl rfl 6 (by decide) (hts (.fieldLink RX9 44 "ProofBench$Tape" "length" "I") (by decide +kernel)) (fun _ h9 => h9) rfl dX9_take_33 ?_
  refine lv_iconst (v := 1) hx hb dX9_take_36 (by decide) ?_
  refine lv_iadd hx hb dX9_take_37 ?_
  refine lv_topi (fun z_25 e9 => ?_)
  obtain rfl : z_25 = 21 := by rw [e9]; decide
  refine va_put (D := (dC, dI)) (ci := 9) (v := .int 21) (ty := .int) (C := RX9) (T := TX9) (N := 11) hx hb hts (by decide +kernel) tyX9 tyX9_ok nmX9 hown hK hP hD hS 0 rfl rfl 6 (by decide) (hts (.fieldLink RX9 44 "ProofBench$Tape" "length" "I") (by decide +kernel)) (fun _ h9 => h9) rfl (by decide +kernel) rfl rfl (Nat.le_of_ble_eq_true rfl) dX9_take_38 (fun H locs hP hD hS => ?_)
  have hP : va_P (dC, dI) vwCl [(h0, .inr (9, [.ref a1, .ref a2, .ref a3, .ref a4, .ref a5, .ref a6, .int 21, .int 0, .int 0, .int 0, .int 0])), (a1, .inl (cA1, 4000, .inl (f_24)))] H := hP
  have hD : va_D A [(h0, .inr (9, [.ref a1, .ref a2, .ref a3, .ref a4, .ref a5, .ref a6, .int 21, .int 0, .int 0, .int 0, .int 0])), (a1, .inl (cA1, 4000, .inl (f_24)))] := hD
  refine lv_iinc (v := 16) (lv' := [(3, .int 16), (0, .ref h0), (1, .long x)]) hx hb dX9_take_41 hl (k := 0) rfl (by decide) (by decide) rfl (fun ls hl => ?_)
  refine lv_goto (tgt := 3) hx hb dX9_take_44 (by decide) ?_
  refine lv_iload_n hx hb dX9_take_3 rfl (lv_at hl 0 rfl) ?_
  refine lv_if_lt (tgt := 47) hx hb dX9_take_4 (by decide) (fun c9 => absurd c9 (by decide)) (fun _ => ?_)
  refine lv_aload_n hx hb dX9_take_7 rfl (lv_at hl 1 rfl) ?_
  refine va_get (D := (dC, dI)) (ci := 9) (v := .int 21) (C := RX9) (T := TX9) (N := 11) hx hb hts (by decide +kernel) hown hK hP 0 rfl rfl 6 (by decide) (hts (.fieldLink RX9 44 "ProofBench$Tape" "length" "I") (by decide +kernel)) (fun _ h9 => h9) rfl dX9_take_8 ?_
  refine lv_sipush (v := 4000) hx hb dX9_take_11 (by decide) ?_
  refine lv_icmp_ge (tgt := 41) hx hb dX9_take_14 (by decide) (fun c9 => absurd c9 (by decide)) (fun _ => ?_)
  refine lv_aload_n hx hb dX9_take_17 rfl (lv_at hl 1 rfl) ?_
  refine va_get (D := (dC, dI)) (ci := 9) (v := .ref a1) (C := RX9) (T := TX9) (N := 11) hx hb hts (by decide +kernel) hown hK hP 0 rfl rfl 0 (by decide) (hts (.fieldLink RX9 9 "ProofBench$Tape" "bytes" "[B") (by decide +kernel)) (fun _ h9 => h9) rfl dX9_take_18 ?_
  refine lv_aload_n hx hb dX9_take_21 rfl (lv_at hl 1 rfl) ?_
  refine va_get (D := (dC, dI)) (ci := 9) (v := .int 21) (C := RX9) (T := TX9) (N := 11) hx hb hts (by decide +kernel) hown hK hP 0 rfl rfl 6 (by decide) (hts (.fieldLink RX9 44 "ProofBench$Tape" "length" "I") (by decide +kernel)) (fun _ h9 => h9) rfl dX9_take_22 ?_
  refine lv_lload_n hx hb dX9_take_25 rfl (lv_at hl 2 rfl) ?_
  refine lv_iload_n hx hb dX9_take_26 rfl (lv_at hl 0 rfl) ?_
  refine lv_lshr hx hb dX9_take_27 rfl ?_
  refine lv_topl (fun y_26 ey_26 => ?_)
  refine lv_l2i hx hb dX9_take_28 rfl ?_
  refine lv_topi (fun r_27 er_27 => ?_)
  refine lv_i2b hx hb dX9_take_29 rfl ?_
  refine lv_topi (fun r_28 er_28 => ?_)
  refine va_bast hx hb hK hP hD hS 1 0 rfl rfl (show vp_in (21) 4000 from by unfold vp_in; decide) dX9_take_30 (fun H locs hP hD hS => ?_)
  obtain ⟨f_29, hP, hD⟩ : ∃ f9 : Nat → Int32, va_P (dC, dI) vwCl [(h0, .inr (9, [.ref a1, .ref a2, .ref a3, .ref a4, .ref a5, .ref a6, .int 21, .int 0, .int 0, .int 0, .int 0])), (a1, .inl (cA1, 4000, .inl (f9)))] H ∧ va_D A [(h0, .inr (9, [.ref a1, .ref a2, .ref a3, .ref a4, .ref a5, .ref a6, .int 21, .int 0, .int 0, .int 0, .int 0])), (a1, .inl (cA1, 4000, .inl (f9)))] := ⟨_, hP, hD⟩
  refine lv_aload_n hx hb dX9_take_31 rfl (lv_at hl 1 rfl) ?_
  refine lv_dup hx hb dX9_take_32 rfl ?_
  refine va_get (D := (dC, dI)) (ci := 9) (v := .int 21) (C := RX9) (T := TX9) (N := 11) hx hb hts (by decide +kernel) hown hK hP 0 rfl rfl 6 (by decide) (hts (.fieldLink RX9 44 "ProofBench$Tape" "length" "I") (by decide +kernel)) (fun _ h9 => h9) rfl dX9_take_33 ?_
  refine lv_iconst (v := 1) hx hb dX9_take_36 (by decide) ?_
  refine lv_iadd hx hb dX9_take_37 ?_
  refine lv_topi (fun z_30 e9 => ?_)
  obtain rfl : z_30 = 22 := by rw [e9]; decide
  refine va_put (D := (dC, dI)) (ci := 9) (v := .int 22) (ty := .int) (C := RX9) (T := TX9) (N := 11) hx hb hts (by decide +kernel) tyX9 tyX9_ok nmX9 hown hK hP hD hS 0 rfl rfl 6 (by decide) (hts (.fieldLink RX9 44 "ProofBench$Tape" "length" "I") (by decide +kernel)) (fun _ h9 => h9) rfl (by decide +kernel) rfl rfl (Nat.le_of_ble_eq_true rfl) dX9_take_38 (fun H locs hP hD hS => ?_)
  have hP : va_P (dC, dI) vwCl [(h0, .inr (9, [.ref a1, .ref a2, .ref a3, .ref a4, .ref a5, .ref a6, .int 22, .int 0, .int 0, .int 0, .int 0])), (a1, .inl (cA1, 4000, .inl (f_29)))] H := hP
  have hD : va_D A [(h0, .inr (9, [.ref a1, .ref a2, .ref a3, .ref a4, .ref a5, .ref a6, .int 22, .int 0, .int 0, .int 0, .int 0])), (a1, .inl (cA1, 4000, .inl (f_29)))] := hD
  refine lv_iinc (v := 8) (lv' := [(3, .int 8), (0, .ref h0), (1, .long x)]) hx hb dX9_take_41 hl (k := 0) rfl (by decide) (by decide) rfl (fun ls hl => ?_)
  refine lv_goto (tgt := 3) hx hb dX9_take_44 (by decide) ?_
  refine lv_iload_n hx hb dX9_take_3 rfl (lv_at hl 0 rfl) ?_
  refine lv_if_lt (tgt := 47) hx hb dX9_take_4 (by decide) (fun c9 => absurd c9 (by decide)) (fun _ => ?_)
  refine lv_aload_n hx hb dX9_take_7 rfl (lv_at hl 1 rfl) ?_
  refine va_get (D := (dC, dI)) (ci := 9) (v := .int 22) (C := RX9) (T := TX9) (N := 11) hx hb hts (by decide +kernel) hown hK hP 0 rfl rfl 6 (by decide) (hts (.fieldLink RX9 44 "ProofBench$Tape" "length" "I") (by decide +kernel)) (fun _ h9 => h9) rfl dX9_take_8 ?_
  refine lv_sipush (v := 4000) hx hb dX9_take_11 (by decide) ?_
  refine lv_icmp_ge (tgt := 41) hx hb dX9_take_14 (by decide) (fun c9 => absurd c9 (by decide)) (fun _ => ?_)
  refine lv_aload_n hx hb dX9_take_17 rfl (lv_at hl 1 rfl) ?_
  refine va_get (D := (dC, dI)) (ci := 9) (v := .ref a1) (C := RX9) (T := TX9) (N := 11) hx hb hts (by decide +kernel) hown hK hP 0 rfl rfl 0 (by decide) (hts (.fieldLink RX9 9 "ProofBench$Tape" "bytes" "[B") (by decide +kernel)) (fun _ h9 => h9) rfl dX9_take_18 ?_
  refine lv_aload_n hx hb dX9_take_21 rfl (lv_at hl 1 rfl) ?_
  refine va_get (D := (dC, dI)) (ci := 9) (v := .int 22) (C := RX9) (T := TX9) (N := 11) hx hb hts (by decide +kernel) hown hK hP 0 rfl rfl 6 (by decide) (hts (.fieldLink RX9 44 "ProofBench$Tape" "length" "I") (by decide +kernel)) (fun _ h9 => h9) rfl dX9_take_22 ?_
  refine lv_lload_n hx hb dX9_take_25 rfl (lv_at hl 2 rfl) ?_
  refine lv_iload_n hx hb dX9_take_26 rfl (lv_at hl 0 rfl) ?_
  refine lv_lshr hx hb dX9_take_27 rfl ?_
  refine lv_topl (fun y_31 ey_31 => ?_)
  refine lv_l2i hx hb dX9_take_28 rfl ?_
  refine lv_topi (fun r_32 er_32 => ?_)
  refine lv_i2b hx hb dX9_take_29 rfl ?_
  refine lv_topi (fun r_33 er_33 => ?_)
  refine va_bast hx hb hK hP hD hS 1 0 rfl rfl (show vp_in (22) 4000 from by unfold vp_in; decide) dX9_take_30 (fun H locs hP hD hS => ?_)
  obtain ⟨f_34, hP, hD⟩ : ∃ f9 : Nat → Int32, va_P (dC, dI) vwCl [(h0, .inr (9, [.ref a1, .ref a2, .ref a3, .ref a4, .ref a5, .ref a6, .int 22, .int 0, .int 0, .int 0, .int 0])), (a1, .inl (cA1, 4000, .inl (f9)))] H ∧ va_D A [(h0, .inr (9, [.ref a1, .ref a2, .ref a3, .ref a4, .ref a5, .ref a6, .int 22, .int 0, .int 0, .int 0, .int 0])), (a1, .inl (cA1, 4000, .inl (f9)))] := ⟨_, hP, hD⟩
  refine lv_aload_n hx hb dX9_take_31 rfl (lv_at hl 1 rfl) ?_
  refine lv_dup hx hb dX9_take_32 rfl ?_
  refine va_get (D := (dC, dI)) (ci := 9) (v := .int 22) (C := RX9) (T := TX9) (N := 11) hx hb hts (by decide +kernel) hown hK hP 0 rfl rfl 6 (by decide) (hts (.fieldLink RX9 44 "ProofBench$Tape" "length" "I") (by decide +kernel)) (fun _ h9 => h9) rfl dX9_take_33 ?_
  refine lv_iconst (v := 1) hx hb dX9_take_36 (by decide) ?_
  refine lv_iadd hx hb dX9_take_37 ?_
  refine lv_topi (fun z_35 e9 => ?_)
  obtain rfl : z_35 = 23 := by rw [e9]; decide
  refine va_put (D := (dC, dI)) (ci := 9) (v := .int 23) (ty := .int) (C := RX9) (T := TX9) (N := 11) hx hb hts (by decide +kernel) tyX9 tyX9_ok nmX9 hown hK hP hD hS 0 rfl rfl 6 (by decide) (hts (.fieldLink RX9 44 "ProofBench$Tape" "length" "I") (by decide +kernel)) (fun _ h9 => h9) rfl (by decide +kernel) rfl rfl (Nat.le_of_ble_eq_true rfl) dX9_take_38 (fun H locs hP hD hS => ?_)
  have hP : va_P (dC, dI) vwCl [(h0, .inr (9, [.ref a1, .ref a2, .ref a3, .ref a4, .ref a5, .ref a6, .int 23, .int 0, .int 0, .int 0, .int 0])), (a1, .inl (cA1, 4000, .inl (f_34)))] H := hP
  have hD : va_D A [(h0, .inr (9, [.ref a1, .ref a2, .ref a3, .ref a4, .ref a5, .ref a6, .int 23, .int 0, .int 0, .int 0, .int 0])), (a1, .inl (cA1, 4000, .inl (f_34)))] := hD
  refine lv_iinc (v := 0) (lv' := [(3, .int 0), (0, .ref h0), (1, .long x)]) hx hb dX9_take_41 hl (k := 0) rfl (by decide) (by decide) rfl (fun ls hl => ?_)
  refine lv_goto (tgt := 3) hx hb dX9_take_44 (by decide) ?_
  refine lv_iload_n hx hb dX9_take_3 rfl (lv_at hl 0 rfl) ?_
  refine lv_if_lt (tgt := 47) hx hb dX9_take_4 (by decide) (fun c9 => absurd c9 (by decide)) (fun _ => ?_)
  refine lv_aload_n hx hb dX9_take_7 rfl (lv_at hl 1 rfl) ?_
  refine va_get (D := (dC, dI)) (ci := 9) (v := .int 23) (C := RX9) (T := TX9) (N := 11) hx hb hts (by decide +kernel) hown hK hP 0 rfl rfl 6 (by decide) (hts (.fieldLink RX9 44 "ProofBench$Tape" "length" "I") (by decide +kernel)) (fun _ h9 => h9) rfl dX9_take_8 ?_
  refine lv_sipush (v := 4000) hx hb dX9_take_11 (by decide) ?_
  refine lv_icmp_ge (tgt := 41) hx hb dX9_take_14 (by decide) (fun c9 => absurd c9 (by decide)) (fun _ => ?_)
  refine lv_aload_n hx hb dX9_take_17 rfl (lv_at hl 1 rfl) ?_
  refine va_get (D := (dC, dI)) (ci := 9) (v := .ref a1) (C := RX9) (T := TX9) (N := 11) hx hb hts (by decide +kernel) hown hK hP 0 rfl rfl 0 (by decide) (hts (.fieldLink RX9 9 "ProofBench$Tape" "bytes" "[B") (by decide +kernel)) (fun _ h9 => h9) rfl dX9_take_18 ?_
  refine lv_aload_n hx hb dX9_take_21 rfl (lv_at hl 1 rfl) ?_
  refine va_get (D := (dC, dI)) (ci := 9) (v := .int 23) (C := RX9) (T := TX9) (N := 11) hx hb hts (by decide +kernel) hown hK hP 0 rfl rfl 6 (by decide) (hts (.fieldLink RX9 44 "ProofBench$Tape" "length" "I") (by decide +kernel)) (fun _ h9 => h9) rfl dX9_take_22 ?_
  refine lv_lload_n hx hb dX9_take_25 rfl (lv_at hl 2 rfl) ?_
  refine lv_iload_n hx hb dX9_take_26 rfl (lv_at hl 0 rfl) ?_
  refine lv_lshr hx hb dX9_take_27 rfl ?_
  refine lv_topl (fun y_36 ey_36 => ?_)
  refine lv_l2i hx hb dX9_take_28 rfl ?_
  refine lv_topi (fun r_37 er_37 => ?_)
  refine lv_i2b hx hb dX9_take_29 rfl ?_
  refine lv_topi (fun r_38 er_38 => ?_)
  refine va_bast hx hb hK hP hD hS 1 0 rfl rfl (show vp_in (23) 4000 from by unfold vp_in; decide) dX9_take_30 (fun H locs hP hD hS => ?_)
  obtain ⟨f_39, hP, hD⟩ : ∃ f9 : Nat → Int32, va_P (dC, dI) vwCl [(h0, .inr (9, [.ref a1, .ref a2, .ref a3, .ref a4, .ref a5, .ref a6, .int 23, .int 0, .int 0, .int 0, .int 0])), (a1, .inl (cA1, 4000, .inl (f9)))] H ∧ va_D A [(h0, .inr (9, [.ref a1, .ref a2, .ref a3, .ref a4, .ref a5, .ref a6, .int 23, .int 0, .int 0, .int 0, .int 0])), (a1, .inl (cA1, 4000, .inl (f9)))] := ⟨_, hP, hD⟩
  refine lv_aload_n hx hb dX9_take_31 rfl (lv_at hl 1 rfl) ?_
  refine lv_dup hx hb dX9_take_32 rfl ?_
  refine va_get (D := (dC, dI)) (ci := 9) (v := .int 23) (C := RX9) (T := TX9) (N := 11) hx hb hts (by decide +kernel) hown hK hP 0 rfl rfl 6 (by decide) (hts (.fieldLink RX9 44 "ProofBench$Tape" "length" "I") (by decide +kernel)) (fun _ h9 => h9) rfl dX9_take_33 ?_
  refine lv_iconst (v := 1) hx hb dX9_take_36 (by decide) ?_
  refine lv_iadd hx hb dX9_take_37 ?_
  refine lv_topi (fun z_40 e9 => ?_)
  obtain rfl : z_40 = 24 := by rw [e9]; decide
  refine va_put (D := (dC, dI)) (ci := 9) (v := .int 24) (ty := .int) (C := RX9) (T := TX9) (N := 11) hx hb hts (by decide +kernel) tyX9 tyX9_ok nmX9 hown hK hP hD hS 0 rfl rfl 6 (by decide) (hts (.fieldLink RX9 44 "ProofBench$Tape" "length" "I") (by decide +kernel)) (fun _ h9 => h9) rfl (by decide +kernel) rfl rfl (Nat.le_of_ble_eq_true rfl) dX9_take_38 (fun H locs hP hD hS => ?_)
  have hP : va_P (dC, dI) vwCl [(h0, .inr (9, [.ref a1, .ref a2, .ref a3, .ref a4, .ref a5, .ref a6, .int 24, .int 0, .int 0, .int 0, .int 0])), (a1, .inl (cA1, 4000, .inl (f_39)))] H := hP
  have hD : va_D A [(h0, .inr (9, [.ref a1, .ref a2, .ref a3, .ref a4, .ref a5, .ref a6, .int 24, .int 0, .int 0, .int 0, .int 0])), (a1, .inl (cA1, 4000, .inl (f_39)))] := hD
  refine lv_iinc (v := -8) (lv' := [(3, .int (-8)), (0, .ref h0), (1, .long x)]) hx hb dX9_take_41 hl (k := 0) rfl (by decide) (by decide) rfl (fun ls hl => ?_)
  refine lv_goto (tgt := 3) hx hb dX9_take_44 (by decide) ?_
  refine lv_iload_n hx hb dX9_take_3 rfl (lv_at hl 0 rfl) ?_
  refine lv_if_lt (tgt := 47) hx hb dX9_take_4 (by decide) (fun _ => ?_) (fun c9 => absurd c9 (by decide))
  have hP9 := hP.sub (ws' := [(h0, .inr (9, [.ref a1, .ref a2, .ref a3, .ref a4, .ref a5, .ref a6, .int 24, .int 0, .int 0, .int 0, .int 0])), (a1, .inl (cA1, 4000, .inl (f_39)))]) [0, 1] rfl
  have hD9 := hD.sub (ws' := [(h0, .inr (9, [.ref a1, .ref a2, .ref a3, .ref a4, .ref a5, .ref a6, .int 24, .int 0, .int 0, .int 0, .int 0])), (a1, .inl (cA1, 4000, .inl (f_39)))]) [0, 1] (by decide) rfl
  have hK9 := hK.sub (tys' := [(cA1, .byte)]) [0] rfl
  refine W.widen (k := 0) (n := 0) (by omega) (by omega) ?_
  exact W.vret hx hb hr (fun t ht hW => ⟨⟨(), rfl, trivial, f_39, by rw [ht]; exact hP9, va_K.moved hW.alike hK9, hD9⟩, hS.F ht⟩) hS.2.2 dX9_take_47
set_option maxHeartbeats 1000000 in
set_option maxRecDepth 100000 in
/-- take(x): eight bytes behind 24 -/
theorem c_take_24 (l : Launch) (dC : Nat → ClassId) (dI : Nat → Nat → Nat) (sz : Nat) (h0 a1 a2 a3 a4 a5 a6 : Nat) (cA1 : ClassId) (g1 : Nat → Int32) (x : Int64) : Met l yX9_take wc_X9_take ({ frames := 0, cells := 0, slots := 0, locals := 0 }) (va_Pc [.ref h0, .long x] (fun U => U.heap.size = sz ∧ va_P (dC, dI) vwCl [(h0, .inr (9, [.ref a1, .ref a2, .ref a3, .ref a4, .ref a5, .ref a6, .int 24, .int 0, .int 0, .int 0, .int 0])), (a1, .inl (cA1, 4000, .inl (g1)))] U.heap ∧ va_K (dC, dI) vwCl [(cA1, .byte)] U ∧ va_D (fun _ => True) [(h0, .inr (9, [.ref a1, .ref a2, .ref a3, .ref a4, .ref a5, .ref a6, .int 24, .int 0, .int 0, .int 0, .int 0])), (a1, .inl (cA1, 4000, .inl (g1)))])) (va_Qv (fun _ : Unit => True) (fun _ t => ∃ (k9 : Nat → Int32), va_P (dC, dI) vwCl [(h0, .inr (9, [.ref a1, .ref a2, .ref a3, .ref a4, .ref a5, .ref a6, .int 32, .int 0, .int 0, .int 0, .int 0])), (a1, .inl (cA1, 4000, .inl (k9)))] t.heap ∧ va_K (dC, dI) vwCl [(cA1, .byte)] t ∧ va_D (va_A [(h0, .inr (9, [.ref a1, .ref a2, .ref a3, .ref a4, .ref a5, .ref a6, .int 24, .int 0, .int 0, .int 0, .int 0])), (a1, .inl (cA1, 4000, .inl (g1)))] sz) [(h0, .inr (9, [.ref a1, .ref a2, .ref a3, .ref a4, .ref a5, .ref a6, .int 32, .int 0, .int 0, .int 0, .int 0])), (a1, .inl (cA1, 4000, .inl (k9)))]) (va_A [(h0, .inr (9, [.ref a1, .ref a2, .ref a3, .ref a4, .ref a5, .ref a6, .int 24, .int 0, .int 0, .int 0, .int 0])), (a1, .inl (cA1, 4000, .inl (g1)))] sz)) (0) (0) (va_A [(h0, .inr (9, [.ref a1, .ref a2, .ref a3, .ref a4, .ref a5, .ref a6, .int 24, .int 0, .int 0, .int 0, .int 0])), (a1, .inl (cA1, 4000, .inl (g1)))] sz) := by
  refine Met.ofW (cc := cX9_take) (maxL := 4) (ret := none) (by decide) rfl ?_
  intro p e s m args below meth c s₁ B hml hv
  obtain ⟨rfl, hsz, hP, hK, hD0⟩ := hv
  have hx := B.exec
  have hb := B.bytes
  have hr := B.returns
  have hts := atoms_spec (ws := wc_X9_take) B.pre
  have hown : s.vm.findClass RX9 = some m.cls := findClass_of_methodNamed B.named
  have hlocks := B.notSynchronized
  subst hsz
  have hD := hD0.self (sz := s.heap.size)
  generalize hAe : va_A [(h0, .inr (9, [.ref a1, .ref a2, .ref a3, .ref a4, .ref a5, .ref a6, .int 24, .int 0, .int 0, .int 0, .int 0])), (a1, .inl (cA1, 4000, .inl (g1)))] s.heap.size = A at hD ⊢
  have hA : ∀ q : Nat, s.heap.size ≤ q → A q := fun q h => by rw [← hAe]; exact Or.inr h
  have hS : va_S A s.heap s.heap [] := va_S.rf
  have hl := lv_entry ([.ref h0, .long x]) (n := 4) (Nat.le_of_ble_eq_true rfl)
  rw [lg_entry_eq]
  generalize (lg_sl ([.ref h0, .long x]) ++ List.replicate (4 - (lg_sl ([.ref h0, .long x])).length) Slot.unset).toArray = ls at hl ⊢
  have hl : lv_has ls 4 [(0, .ref h0), (1, .long x)] := hl
  refine lv_bipush (v := 56) hx hb dX9_take_0 (by decide) ?_
  refine lv_istore_n (lv' := [(3, .int 56), (0, .ref h0), (1, .long x)]) hx hb dX9_take_2 rfl hl (by decide) rfl (fun ls hl => ?_)
  refine lv_iload_n hx hb dX9_take_3 rfl (lv_at hl 0 rfl) ?_
  refine lv_if_lt (tgt := 47) hx hb dX9_take_4 (by decide) (fun c9 => absurd c9 (by decide)) (fun _ => ?_)
  refine lv_aload_n hx hb dX9_take_7 rfl (lv_at hl 1 rfl) ?_
  refine va_get (D := (dC, dI)) (ci := 9) (v := .int 24) (C := RX9) (T := TX9) (N := 11) hx hb hts (by decide +kernel) hown hK hP 0 rfl rfl 6 (by decide) (hts (.fieldLink RX9 44 "ProofBench$Tape" "length" "I") (by decide +kernel)) (fun _ h9 => h9) rfl dX9_take_8 ?_
  refine lv_sipush (v := 4000) hx hb dX9_take_11 (by decide) ?_
  refine lv_icmp_ge (tgt := 41) hx hb dX9_take_14 (by decide) (fun c9 => absurd c9 (by decide)) (fun _ => ?_)
  refine lv_aload_n hx hb dX9_take_17 rfl (lv_at hl 1 rfl) ?_
  refine va_get (D := (dC, dI)) (ci := 9) (v := .ref a1) (C := RX9) (T := TX9) (N := 11) hx hb hts (by decide +kernel) hown hK hP 0 rfl rfl 0 (by decide) (hts (.fieldLink RX9 9 "ProofBench$Tape" "bytes" "[B") (by decide +kernel)) (fun _ h9 => h9) rfl dX9_take_18 ?_
  refine lv_aload_n hx hb dX9_take_21 rfl (lv_at hl 1 rfl) ?_
  refine va_get (D := (dC, dI)) (ci := 9) (v := .int 24) (C := RX9) (T := TX9) (N := 11) hx hb hts (by decide +kernel) hown hK hP 0 rfl rfl 6 (by decide) (hts (.fieldLink RX9 44 "ProofBench$Tape" "length" "I") (by decide +kernel)) (fun _ h9 => h9) rfl dX9_take_22 ?_
  refine lv_lload_n hx hb dX9_take_25 rfl (lv_at hl 2 rfl) ?_
  refine lv_iload_n hx hb dX9_take_26 rfl (lv_at hl 0 rfl) ?_
  refine lv_lshr hx hb dX9_take_27 rfl ?_
  refine lv_topl (fun y_1 ey_1 => ?_)
  refine lv_l2i hx hb dX9_take_28 rfl ?_
  refine lv_topi (fun r_2 er_2 => ?_)
  refine lv_i2b hx hb dX9_take_29 rfl ?_
  refine lv_topi (fun r_3 er_3 => ?_)
  refine va_bast hx hb hK hP hD hS 1 0 rfl rfl (show vp_in (24) 4000 from by unfold vp_in; decide) dX9_take_30 (fun H locs hP hD hS => ?_)
  obtain ⟨f_4, hP, hD⟩ : ∃ f9 : Nat → Int32, va_P (dC, dI) vwCl [(h0, .inr (9, [.ref a1, .ref a2, .ref a3, .ref a4, .ref a5, .ref a6, .int 24, .int 0, .int 0, .int 0, .int 0])), (a1, .inl (cA1, 4000, .inl (f9)))] H ∧ va_D A [(h0, .inr (9, [.ref a1, .ref a2, .ref a3, .ref a4, .ref a5, .ref a6, .int 24, .int 0, .int 0, .int 0, .int 0])), (a1, .inl (cA1, 4000, .inl (f9)))] := ⟨_, hP, hD⟩
  refine lv_aload_n hx hb dX9_take_31 rfl (lv_at hl 1 rfl) ?_
  refine lv_dup hx hb dX9_take_32 rfl ?_
  refine va_get (D := (dC, dI)) (ci := 9) (v := .int 24) (C := RX9) (T := TX9) (N := 11) hx hb hts (by decide +kernel) hown hK hP 0 rfl rfl 6 (by decide) (hts (.fieldLink RX9 44 "ProofBench$Tape" "length" "I") (by decide +kernel)) (fun _ h9 => h9) rfl dX9_take_33 ?_
  refine lv_iconst (v := 1) hx hb dX9_take_36 (by decide) ?_
  refine lv_iadd hx hb dX9_take_37 ?_
  refine lv_topi (fun z_5 e9 => ?_)
  obtain rfl : z_5 = 25 := by rw [e9]; decide
  refine va_put (D := (dC, dI)) (ci := 9) (v := .int 25) (ty := .int) (C := RX9) (T := TX9) (N := 11) hx hb hts (by decide +kernel) tyX9 tyX9_ok nmX9 hown hK hP hD hS 0 rfl rfl 6 (by decide) (hts (.fieldLink RX9 44 "ProofBench$Tape" "length" "I") (by decide +kernel)) (fun _ h9 => h9) rfl (by decide +kernel) rfl rfl (Nat.le_of_ble_eq_true rfl) dX9_take_38 (fun H locs hP hD hS => ?_)
  have hP : va_P (dC, dI) vwCl [(h0, .inr (9, [.ref a1, .ref a2, .ref a3, .ref a4, .ref a5, .ref a6, .int 25, .int 0, .int 0, .int 0, .int 0])), (a1, .inl (cA1, 4000, .inl (f_4)))] H := hP
  have hD : va_D A [(h0, .inr (9, [.ref a1, .ref a2, .ref a3, .ref a4, .ref a5, .ref a6, .int 25, .int 0, .int 0, .int 0, .int 0])), (a1, .inl (cA1, 4000, .inl (f_4)))] := hD
  refine lv_iinc (v := 48) (lv' := [(3, .int 48), (0, .ref h0), (1, .long x)]) hx hb dX9_take_41 hl (k := 0) rfl (by decide) (by decide) rfl (fun ls hl => ?_)
  refine lv_goto (tgt := 3) hx hb dX9_take_44 (by decide) ?_
  refine lv_iload_n hx hb dX9_take_3 rfl (lv_at hl 0 rfl) ?_
  refine lv_if_lt (tgt := 47) hx hb dX9_take_4 (by decide) (fun c9 => absurd c9 (by decide)) (fun _ => ?_)
  refine lv_aload_n hx hb dX9_take_7 rfl (lv_at hl 1 rfl) ?_
  refine va_get (D := (dC, dI)) (ci := 9) (v := .int 25) (C := RX9) (T := TX9) (N := 11) hx hb hts (by decide +kernel) hown hK hP 0 rfl rfl 6 (by decide) (hts (.fieldLink RX9 44 "ProofBench$Tape" "length" "I") (by decide +kernel)) (fun _ h9 => h9) rfl dX9_take_8 ?_
  refine lv_sipush (v := 4000) hx hb dX9_take_11 (by decide) ?_
  refine lv_icmp_ge (tgt := 41) hx hb dX9_take_14 (by decide) (fun c9 => absurd c9 (by decide)) (fun _ => ?_)
  refine lv_aload_n hx hb dX9_take_17 rfl (lv_at hl 1 rfl) ?_
  refine va_get (D := (dC, dI)) (ci := 9) (v := .ref a1) (C := RX9) (T := TX9) (N := 11) hx hb hts (by decide +kernel) hown hK hP 0 rfl rfl 0 (by decide) (hts (.fieldLink RX9 9 "ProofBench$Tape" "bytes" "[B") (by decide +kernel)) (fun _ h9 => h9) rfl dX9_take_18 ?_
  refine lv_aload_n hx hb dX9_take_21 rfl (lv_at hl 1 rfl) ?_
  refine va_get (D := (dC, dI)) (ci := 9) (v := .int 25) (C := RX9) (T := TX9) (N := 11) hx hb hts (by decide +kernel) hown hK hP 0 rfl rfl 6 (by decide) (hts (.fieldLink RX9 44 "ProofBench$Tape" "length" "I") (by decide +kernel)) (fun _ h9 => h9) rfl dX9_take_22 ?_
  refine lv_lload_n hx hb dX9_take_25 rfl (lv_at hl 2 rfl) ?_
  refine lv_iload_n hx hb dX9_take_26 rfl (lv_at hl 0 rfl) ?_
  refine lv_lshr hx hb dX9_take_27 rfl ?_
  refine lv_topl (fun y_6 ey_6 => ?_)
  refine lv_l2i hx hb dX9_take_28 rfl ?_
  refine lv_topi (fun r_7 er_7 => ?_)
  refine lv_i2b hx hb dX9_take_29 rfl ?_
  refine lv_topi (fun r_8 er_8 => ?_)
  refine va_bast hx hb hK hP hD hS 1 0 rfl rfl (show vp_in (25) 4000 from by unfold vp_in; decide) dX9_take_30 (fun H locs hP hD hS => ?_)
  obtain ⟨f_9, hP, hD⟩ : ∃ f9 : Nat → Int32, va_P (dC, dI) vwCl [(h0, .inr (9, [.ref a1, .ref a2, .ref a3, .ref a4, .ref a5, .ref a6, .int 25, .int 0, .int 0, .int 0, .int 0])), (a1, .inl (cA1, 4000, .inl (f9)))] H ∧ va_D A [(h0, .inr (9, [.ref a1, .ref a2, .ref a3, .ref a4, .ref a5, .ref a6, .int 25, .int 0, .int 0, .int 0, .int 0])), (a1, .inl (cA1, 4000, .inl (f9)))] := ⟨_, hP, hD⟩
  refine lv_aload_n hx hb dX9_take_31 rfl (lv_at hl 1 rfl) ?_
  refine lv_dup hx hb dX9_take_32 rfl ?_
  refine va_get (D := (dC, dI)) (ci := 9) (v := .int 25) (C := RX9) (T := TX9) (N := 11) hx hb hts (by decide +kernel) hown hK hP 0 rfl rfl 6 (by decide) (hts (.fieldLink RX9 44 "ProofBench$Tape" "length" "I") (by decide +kernel)) (fun _ h9 => h9) rfl dX9_take_33 ?_
  refine lv_iconst (v := 1) hx hb dX9_take_36 (by decide) ?_
  refine lv_iadd hx hb dX9_take_37 ?_
  refine lv_topi (fun z_10 e9 => ?_)
  obtain rfl : z_10 = 26 := by rw [e9]; decide
  refine va_put (D := (dC, dI)) (ci := 9) (v := .int 26) (ty := .int) (C := RX9) (T := TX9) (N := 11) hx hb hts (by decide +kernel) tyX9 tyX9_ok nmX9 hown hK hP hD hS 0 rfl rfl 6 (by decide) (hts (.fieldLink RX9 44 "ProofBench$Tape" "length" "I") (by decide +kernel)) (fun _ h9 => h9) rfl (by decide +kernel) rfl rfl (Nat.le_of_ble_eq_true rfl) dX9_take_38 (fun H locs hP hD hS => ?_)
  have hP : va_P (dC, dI) vwCl [(h0, .inr (9, [.ref a1, .ref a2, .ref a3, .ref a4, .ref a5, .ref a6, .int 26, .int 0, .int 0, .int 0, .int 0])), (a1, .inl (cA1, 4000, .inl (f_9)))] H := hP
  have hD : va_D A [(h0, .inr (9, [.ref a1, .ref a2, .ref a3, .ref a4, .ref a5, .ref a6, .int 26, .int 0, .int 0, .int 0, .int 0])), (a1, .inl (cA1, 4000, .inl (f_9)))] := hD
  refine lv_iinc (v := 40) (lv' := [(3, .int 40), (0, .ref h0), (1, .long x)]) hx hb dX9_take_41 hl (k := 0) rfl (by decide) (by decide) rfl (fun ls hl => ?_)
  refine lv_goto (tgt := 3) hx hb dX9_take_44 (by decide) ?_
  refine lv_iload_n hx hb dX9_take_3 rfl (lv_at hl 0 rfl) ?_
  refine lv_if_lt (tgt := 47) hx hb dX9_take_4 (by decide) (fun c9 => absurd c9 (by decide)) (fun _ => ?_)
  refine lv_aload_n hx hb dX9_take_7 rfl (lv_at hl 1 rfl) ?_
  refine va_get (D := (dC, dI)) (ci := 9) (v := .int 26) (C := RX9) (T := TX9) (N := 11) hx hb hts (by decide +kernel) hown hK hP 0 rfl rfl 6 (by decide) (hts (.fieldLink RX9 44 "ProofBench$Tape" "length" "I") (by decide +kernel)) (fun _ h9 => h9) rfl dX9_take_8 ?_
  refine lv_sipush (v := 4000) hx hb dX9_take_11 (by decide) ?_
  refine lv_icmp_ge (tgt := 41) hx hb dX9_take_14 (by decide) (fun c9 => absurd c9 (by decide)) (fun _ => ?_)
  refine lv_aload_n hx hb dX9_take_17 rfl (lv_at hl 1 rfl) ?_
  refine va_get (D := (dC, dI)) (ci := 9) (v := .ref a1) (C := RX9) (T := TX9) (N := 11) hx hb hts (by decide +kernel) hown hK hP 0 rfl rfl 0 (by decide) (hts (.fieldLink RX9 9 "ProofBench$Tape" "bytes" "[B") (by decide +kernel)) (fun _ h9 => h9) rfl dX9_take_18 ?_
  refine lv_aload_n hx hb dX9_take_21 rfl (lv_at hl 1 rfl) ?_
  refine va_get (D := (dC, dI)) (ci := 9) (v := .int 26) (C := RX9) (T := TX9) (N := 11) hx hb hts (by decide +kernel) hown hK hP 0 rfl rfl 6 (by decide) (hts (.fieldLink RX9 44 "ProofBench$Tape" "length" "I") (by decide +kernel)) (fun _ h9 => h9) rfl dX9_take_22 ?_
  refine lv_lload_n hx hb dX9_take_25 rfl (lv_at hl 2 rfl) ?_
  refine lv_iload_n hx hb dX9_take_26 rfl (lv_at hl 0 rfl) ?_
  refine lv_lshr hx hb dX9_take_27 rfl ?_
  refine lv_topl (fun y_11 ey_11 => ?_)
  refine lv_l2i hx hb dX9_take_28 rfl ?_
  refine lv_topi (fun r_12 er_12 => ?_)
  refine lv_i2b hx hb dX9_take_29 rfl ?_
  refine lv_topi (fun r_13 er_13 => ?_)
  refine va_bast hx hb hK hP hD hS 1 0 rfl rfl (show vp_in (26) 4000 from by unfold vp_in; decide) dX9_take_30 (fun H locs hP hD hS => ?_)
  obtain ⟨f_14, hP, hD⟩ : ∃ f9 : Nat → Int32, va_P (dC, dI) vwCl [(h0, .inr (9, [.ref a1, .ref a2, .ref a3, .ref a4, .ref a5, .ref a6, .int 26, .int 0, .int 0, .int 0, .int 0])), (a1, .inl (cA1, 4000, .inl (f9)))] H ∧ va_D A [(h0, .inr (9, [.ref a1, .ref a2, .ref a3, .ref a4, .ref a5, .ref a6, .int 26, .int 0, .int 0, .int 0, .int 0])), (a1, .inl (cA1, 4000, .inl (f9)))] := ⟨_, hP, hD⟩
  refine lv_aload_n hx hb dX9_take_31 rfl (lv_at hl 1 rfl) ?_
  refine lv_dup hx hb dX9_take_32 rfl ?_
  refine va_get (D := (dC, dI)) (ci := 9) (v := .int 26) (C := RX9) (T := TX9) (N := 11) hx hb hts (by decide +kernel) hown hK hP 0 rfl rfl 6 (by decide) (hts (.fieldLink RX9 44 "ProofBench$Tape" "length" "I") (by decide +kernel)) (fun _ h9 => h9) rfl dX9_take_33 ?_
  refine lv_iconst (v := 1) hx hb dX9_take_36 (by decide) ?_
  refine lv_iadd hx hb dX9_take_37 ?_
  refine lv_topi (fun z_15 e9 => ?_)
  obtain rfl : z_15 = 27 := by rw [e9]; decide
  refine va_put (D := (dC, dI)) (ci := 9) (v := .int 27) (ty := .int) (C := RX9) (T := TX9) (N := 11) hx hb hts (by decide +kernel) tyX9 tyX9_ok nmX9 hown hK hP hD hS 0 rfl rfl 6 (by decide) (hts (.fieldLink RX9 44 "ProofBench$Tape" "length" "I") (by decide +kernel)) (fun _ h9 => h9) rfl (by decide +kernel) rfl rfl (Nat.le_of_ble_eq_true rfl) dX9_take_38 (fun H locs hP hD hS => ?_)
  have hP : va_P (dC, dI) vwCl [(h0, .inr (9, [.ref a1, .ref a2, .ref a3, .ref a4, .ref a5, .ref a6, .int 27, .int 0, .int 0, .int 0, .int 0])), (a1, .inl (cA1, 4000, .inl (f_14)))] H := hP
  have hD : va_D A [(h0, .inr (9, [.ref a1, .ref a2, .ref a3, .ref a4, .ref a5, .ref a6, .int 27, .int 0, .int 0, .int 0, .int 0])), (a1, .inl (cA1, 4000, .inl (f_14)))] := hD
  refine lv_iinc (v := 32) (lv' := [(3, .int 32), (0, .ref h0), (1, .long x)]) hx hb dX9_take_41 hl (k := 0) rfl (by decide) (by decide) rfl (fun ls hl => ?_)
  refine lv_goto (tgt := 3) hx hb dX9_take_44 (by decide) ?_
  refine lv_iload_n hx hb dX9_take_3 rfl (lv_at hl 0 rfl) ?_
  refine lv_if_lt (tgt := 47) hx hb dX9_take_4 (by decide) (fun c9 => absurd c9 (by decide)) (fun _ => ?_)
  refine lv_aload_n hx hb dX9_take_7 rfl (lv_at hl 1 rfl) ?_
  refine va_get (D := (dC, dI)) (ci := 9) (v := .int 27) (C := RX9) (T := TX9) (N := 11) hx hb hts (by decide +kernel) hown hK hP 0 rfl rfl 6 (by decide) (hts (.fieldLink RX9 44 "ProofBench$Tape" "length" "I") (by decide +kernel)) (fun _ h9 => h9) rfl dX9_take_8 ?_
  refine lv_sipush (v := 4000) hx hb dX9_take_11 (by decide) ?_
  refine lv_icmp_ge (tgt := 41) hx hb dX9_take_14 (by decide) (fun c9 => absurd c9 (by decide)) (fun _ => ?_)
  refine lv_aload_n hx hb dX9_take_17 rfl (lv_at hl 1 rfl) ?_
  refine va_get (D := (dC, dI)) (ci := 9) (v := .ref a1) (C := RX9) (T := TX9) (N := 11) hx hb hts (by decide +kernel) hown hK hP 0 rfl rfl 0 (by decide) (hts (.fieldLink RX9 9 "ProofBench$Tape" "bytes" "[B") (by decide +kernel)) (fun _ h9 => h9) rfl dX9_take_18 ?_
  refine lv_aload_n hx hb dX9_take_21 rfl (lv_at hl 1 rfl) ?_
  refine va_get (D := (dC, dI)) (ci := 9) (v := .int 27) (C := RX9) (T := TX9) (N := 11) hx hb hts (by decide +kernel) hown hK hP 0 rfl rfl 6 (by decide) (hts (.fieldLink RX9 44 "ProofBench$Tape" "length" "I") (by decide +kernel)) (fun _ h9 => h9) rfl dX9_take_22 ?_
  refine lv_lload_n hx hb dX9_take_25 rfl (lv_at hl 2 rfl) ?_
  refine lv_iload_n hx hb dX9_take_26 rfl (lv_at hl 0 rfl) ?_
  refine lv_lshr hx hb dX9_take_27 rfl ?_
  refine lv_topl (fun y_16 ey_16 => ?_)
  refine lv_l2i hx hb dX9_take_28 rfl ?_
  refine lv_topi (fun r_17 er_17 => ?_)
  refine lv_i2b hx hb dX9_take_29 rfl ?_
  refine lv_topi (fun r_18 er_18 => ?_)
  refine va_bast hx hb hK hP hD hS 1 0 rfl rfl (show vp_in (27) 4000 from by unfold vp_in; decide) dX9_take_30 (fun H locs hP hD hS => ?_)
  obtain ⟨f_19, hP, hD⟩ : ∃ f9 : Nat → Int32, va_P (dC, dI) vwCl [(h0, .inr (9, [.ref a1, .ref a2, .ref a3, .ref a4, .ref a5, .ref a6, .int 27, .int 0, .int 0, .int 0, .int 0])), (a1, .inl (cA1, 4000, .inl (f9)))] H ∧ va_D A [(h0, .inr (9, [.ref a1, .ref a2, .ref a3, .ref a4, .ref a5, .ref a6, .int 27, .int 0, .int 0, .int 0, .int 0])), (a1, .inl (cA1, 4000, .inl (f9)))] := ⟨_, hP, hD⟩
  refine lv_aload_n hx hb dX9_take_31 rfl (lv_at hl 1 rfl) ?_
  refine lv_dup hx hb dX9_take_32 rfl ?_
  refine va_get (D := (dC, dI)) (ci := 9) (v := .int 27) (C := RX9) (T := TX9) (N := 11) hx hb hts (by decide +kernel) hown hK hP 0 rfl rfl 6 (by decide) (hts (.fieldLink RX9 44 "ProofBench$Tape" "length" "I") (by decide +kernel)) (fun _ h9 => h9) rfl dX9_take_33 ?_
  refine lv_iconst (v := 1) hx hb dX9_take_36 (by decide) ?_
  refine lv_iadd hx hb dX9_take_37 ?_
  refine lv_topi (fun z_20 e9 => ?_)
  obtain rfl : z_20 = 28 := by rw [e9]; decide
  refine va_put (D := (dC, dI)) (ci := 9) (v := .int 28) (ty := .int) (C := RX9) (T := TX9) (N := 11) hx hb hts (by decide +kernel) tyX9 tyX9_ok nmX9 hown hK hP hD hS 0 rfl rfl 6 (by decide) (hts (.fieldLink RX9 44 "ProofBench$Tape" "length" "I") (by decide +kernel)) (fun _ h9 => h9) rfl (by decide +kernel) rfl rfl (Nat.le_of_ble_eq_true rfl) dX9_take_38 (fun H locs hP hD hS => ?_)
  have hP : va_P (dC, dI) vwCl [(h0, .inr (9, [.ref a1, .ref a2, .ref a3, .ref a4, .ref a5, .ref a6, .int 28, .int 0, .int 0, .int 0, .int 0])), (a1, .inl (cA1, 4000, .inl (f_19)))] H := hP
  have hD : va_D A [(h0, .inr (9, [.ref a1, .ref a2, .ref a3, .ref a4, .ref a5, .ref a6, .int 28, .int 0, .int 0, .int 0, .int 0])), (a1, .inl (cA1, 4000, .inl (f_19)))] := hD
  refine lv_iinc (v := 24) (lv' := [(3, .int 24), (0, .ref h0), (1, .long x)]) hx hb dX9_take_41 hl (k := 0) rfl (by decide) (by decide) rfl (fun ls hl => ?_)
  refine lv_goto (tgt := 3) hx hb dX9_take_44 (by decide) ?_
  refine lv_iload_n hx hb dX9_take_3 rfl (lv_at hl 0 rfl) ?_
  refine lv_if_lt (tgt := 47) hx hb dX9_take_4 (by decide) (fun c9 => absurd c9 (by decide)) (fun _ => ?_)
  refine lv_aload_n hx hb dX9_take_7 rfl (lv_at hl 1 rfl) ?_
  refine va_get (D := (dC, dI)) (ci := 9) (v := .int 28) (C := RX9) (T := TX9) (N := 11) hx hb hts (by decide +kernel) hown hK hP 0 rfl rfl 6 (by decide) (hts (.fieldLink RX9 44 "ProofBench$Tape" "length" "I") (by decide +kernel)) (fun _ h9 => h9) rfl dX9_take_8 ?_
  refine lv_sipush (v := 4000) hx hb dX9_take_11 (by decide) ?_
  refine lv_icmp_ge (tgt := 41) hx hb dX9_take_14 (by decide) (fun c9 => absurd c9 (by decide)) (fun _ => ?_)
  refine lv_aload_n hx hb dX9_take_17 rfl (lv_at hl 1 rfl) ?_
  refine va_get (D := (dC, dI)) (ci := 9) (v := .ref a1) (C := RX9) (T := TX9) (N := 11) hx hb hts (by decide +kernel) hown hK hP 0 rfl rfl 0 (by decide) (hts (.fieldLink RX9 9 "ProofBench$Tape" "bytes" "[B") (by decide +kernel)) (fun _ h9 => h9) rfl dX9_take_18 ?_
  refine lv_aload_n hx hb dX9_take_21 rfl (lv_at hl 1 rfl) ?_
  refine va_get (D := (dC, dI)) (ci := 9) (v := .int 28) (C := RX9) (T := TX9) (N := 11) hx hb hts (by decide +kernel) hown hK hP 0 rfl rfl 6 (by decide) (hts (.fieldLink RX9 44 "ProofBench$Tape" "length" "I") (by decide +kernel)) (fun _ h9 => h9) rfl dX9_take_22 ?_
  refine lv_lload_n hx hb dX9_take_25 rfl (lv_at hl 2 rfl) ?_
  refine lv_iload_n hx hb dX9_take_26 rfl (lv_at hl 0 rfl) ?_
  refine lv_lshr hx hb dX9_take_27 rfl ?_
  refine lv_topl (fun y_21 ey_21 => ?_)
  refine lv_l2i hx hb dX9_take_28 rfl ?_
  refine lv_topi (fun r_22 er_22 => ?_)
  refine lv_i2b hx hb dX9_take_29 rfl ?_
  refine lv_topi (fun r_23 er_23 => ?_)
  refine va_bast hx hb hK hP hD hS 1 0 rfl rfl (show vp_in (28) 4000 from by unfold vp_in; decide) dX9_take_30 (fun H locs hP hD hS => ?_)
  obtain ⟨f_24, hP, hD⟩ : ∃ f9 : Nat → Int32, va_P (dC, dI) vwCl [(h0, .inr (9, [.ref a1, .ref a2, .ref a3, .ref a4, .ref a5, .ref a6, .int 28, .int 0, .int 0, .int 0, .int 0])), (a1, .inl (cA1, 4000, .inl (f9)))] H ∧ va_D A [(h0, .inr (9, [.ref a1, .ref a2, .ref a3, .ref a4, .ref a5, .ref a6, .int 28, .int 0, .int 0, .int 0, .int 0])), (a1, .inl (cA1, 4000, .inl (f9)))] := ⟨_, hP, hD⟩
  refine lv_aload_n hx hb dX9_take_31 rfl (lv_at hl 1 rfl) ?_
  refine lv_dup hx hb dX9_take_32 rfl ?_
  refine va_get (D := (dC, dI)) (ci := 9) (v := .int 28) (C := RX9) (T := TX9) (N := 11) hx hb hts (by decide +kernel) hown hK hP 0 rfl rfl 6 (by decide) (hts (.fieldLink RX9 44 "ProofBench$Tape" "length" "I") (by decide +kernel)) (fun _ h9 => h9) rfl dX9_take_33 ?_
  refine lv_iconst (v := 1) hx hb dX9_take_36 (by decide) ?_
  refine lv_iadd hx hb dX9_take_37 ?_
  refine lv_topi (fun z_25 e9 => ?_)
  obtain rfl : z_25 = 29 := by rw [e9]; decide
  refine va_put (D := (dC, dI)) (ci := 9) (v := .int 29) (ty := .int) (C := RX9) (T := TX9) (N := 11) hx hb hts (by decide +kernel) tyX9 tyX9_ok nmX9 hown hK hP hD hS 0 rfl rfl 6 (by decide) (hts (.fieldLink RX9 44 "ProofBench$Tape" "length" "I") (by decide +kernel)) (fun _ h9 => h9) rfl (by decide +kernel) rfl rfl (Nat.le_of_ble_eq_true rfl) dX9_take_38 (fun H locs hP hD hS => ?_)
  have hP : va_P (dC, dI) vwCl [(h0, .inr (9, [.ref a1, .ref a2, .ref a3, .ref a4, .ref a5, .ref a6, .int 29, .int 0, .int 0, .int 0, .int 0])), (a1, .inl (cA1, 4000, .inl (f_24)))] H := hP
  have hD : va_D A [(h0, .inr (9, [.ref a1, .ref a2, .ref a3, .ref a4, .ref a5, .ref a6, .int 29, .int 0, .int 0, .int 0, .int 0])), (a1, .inl (cA1, 4000, .inl (f_24)))] := hD
  refine lv_iinc (v := 16) (lv' := [(3, .int 16), (0, .ref h0), (1, .long x)]) hx hb dX9_take_41 hl (k := 0) rfl (by decide) (by decide) rfl (fun ls hl => ?_)
  refine lv_goto (tgt := 3) hx hb dX9_take_44 (by decide) ?_
  refine lv_iload_n hx hb dX9_take_3 rfl (lv_at hl 0 rfl) ?_
  refine lv_if_lt (tgt := 47) hx hb dX9_take_4 (by decide) (fun c9 => absurd c9 (by decide)) (fun _ => ?_)
  refine lv_aload_n hx hb dX9_take_7 rfl (lv_at hl 1 rfl) ?_
  refine va_get (D := (dC, dI)) (ci := 9) (v := .int 29) (C := RX9) (T := TX9) (N := 11) hx hb hts (by decide +kernel) hown hK hP 0 rfl rfl 6 (by decide) (hts (.fieldLink RX9 44 "ProofBench$Tape" "length" "I") (by decide +kernel)) (fun _ h9 => h9) rfl dX9_take_8 ?_
  refine lv_sipush (v := 4000) hx hb dX9_take_11 (by decide) ?_
  refine lv_icmp_ge (tgt := 41) hx hb dX9_take_14 (by decide) (fun c9 => absurd c9 (by decide)) (fun _ => ?_)
  refine lv_aload_n hx hb dX9_take_17 rfl (lv_at hl 1 rfl) ?_
  refine va_get (D := (dC, dI)) (ci := 9) (v := .ref a1) (C := RX9) (T := TX9) (N := 11) hx hb hts (by decide +kernel) hown hK hP 0 rfl rfl 0 (by decide) (hts (.fieldLink RX9 9 "ProofBench$Tape" "bytes" "[B") (by decide +kernel)) (fun _ h9 => h9) rfl dX9_take_18 ?_
  refine lv_aload_n hx hb dX9_take_21 rfl (lv_at hl 1 rfl) ?_
  refine va_get (D := (dC, dI)) (ci := 9) (v := .int 29) (C := RX9) (T := TX9) (N := 11) hx hb hts (by decide +kernel) hown hK hP 0 rfl rfl 6 (by decide) (hts (.fieldLink RX9 44 "ProofBench$Tape" "length" "I") (by decide +kernel)) (fun _ h9 => h9) rfl dX9_take_22 ?_
  refine lv_lload_n hx hb dX9_take_25 rfl (lv_at hl 2 rfl) ?_
  refine lv_iload_n hx hb dX9_take_26 rfl (lv_at hl 0 rfl) ?_
  refine lv_lshr hx hb dX9_take_27 rfl ?_
  refine lv_topl (fun y_26 ey_26 => ?_)
  refine lv_l2i hx hb dX9_take_28 rfl ?_
  refine lv_topi (fun r_27 er_27 => ?_)
  refine lv_i2b hx hb dX9_take_29 rfl ?_
  refine lv_topi (fun r_28 er_28 => ?_)
  refine va_bast hx hb hK hP hD hS 1 0 rfl rfl (show vp_in (29) 4000 from by unfold vp_in; decide) dX9_take_30 (fun H locs hP hD hS => ?_)
  obtain ⟨f_29, hP, hD⟩ : ∃ f9 : Nat → Int32, va_P (dC, dI) vwCl [(h0, .inr (9, [.ref a1, .ref a2, .ref a3, .ref a4, .ref a5, .ref a6, .int 29, .int 0, .int 0, .int 0, .int 0])), (a1, .inl (cA1, 4000, .inl (f9)))] H ∧ va_D A [(h0, .inr (9, [.ref a1, .ref a2, .ref a3, .ref a4, .ref a5, .ref a6, .int 29, .int 0, .int 0, .int 0, .int 0])), (a1, .inl (cA1, 4000, .inl (f9)))] := ⟨_, hP, hD⟩
  refine lv_aload_n hx hb dX9_take_31 rfl (lv_at hl 1 rfl) ?_
  refine lv_dup hx hb dX9_take_32 rfl ?_
  refine va_get (D := (dC, dI)) (ci := 9) (v := .int 29) (C := RX9) (T := TX9) (N := 11) hx hb hts (by decide +kernel) hown hK hP 0 rfl rfl 6 (by decide) (hts (.fieldLink RX9 44 "ProofBench$Tape" "length" "I") (by decide +kernel)) (fun _ h9 => h9) rfl dX9_take_33 ?_
  refine lv_iconst (v := 1) hx hb dX9_take_36 (by decide) ?_
  refine lv_iadd hx hb dX9_take_37 ?_
  refine lv_topi (fun z_30 e9 => ?_)
  obtain rfl : z_30 = 30 := by rw [e9]; decide
  refine va_put (D := (dC, dI)) (ci := 9) (v := .int 30) (ty := .int) (C := RX9) (T := TX9) (N := 11) hx hb hts (by decide +kernel) tyX9 tyX9_ok nmX9 hown hK hP hD hS 0 rfl rfl 6 (by decide) (hts (.fieldLink RX9 44 "ProofBench$Tape" "length" "I") (by decide +kernel)) (fun _ h9 => h9) rfl (by decide +kernel) rfl rfl (Nat.le_of_ble_eq_true rfl) dX9_take_38 (fun H locs hP hD hS => ?_)
  have hP : va_P (dC, dI) vwCl [(h0, .inr (9, [.ref a1, .ref a2, .ref a3, .ref a4, .ref a5, .ref a6, .int 30, .int 0, .int 0, .int 0, .int 0])), (a1, .inl (cA1, 4000, .inl (f_29)))] H := hP
  have hD : va_D A [(h0, .inr (9, [.ref a1, .ref a2, .ref a3, .ref a4, .ref a5, .ref a6, .int 30, .int 0, .int 0, .int 0, .int 0])), (a1, .inl (cA1, 4000, .inl (f_29)))] := hD
  refine lv_iinc (v := 8) (lv' := [(3, .int 8), (0, .ref h0), (1, .long x)]) hx hb dX9_take_41 hl (k := 0) rfl (by decide) (by decide) rfl (fun ls hl => ?_)
  refine lv_goto (tgt := 3) hx hb dX9_take_44 (by decide) ?_
  refine lv_iload_n hx hb dX9_take_3 rfl (lv_at hl 0 rfl) ?_
  refine lv_if_lt (tgt := 47) hx hb dX9_take_4 (by decide) (fun c9 => absurd c9 (by decide)) (fun _ => ?_)
  refine lv_aload_n hx hb dX9_take_7 rfl (lv_at hl 1 rfl) ?_
  refine va_get (D := (dC, dI)) (ci := 9) (v := .int 30) (C := RX9) (T := TX9) (N := 11) hx hb hts (by decide +kernel) hown hK hP 0 rfl rfl 6 (by decide) (hts (.fieldLink RX9 44 "ProofBench$Tape" "length" "I") (by decide +kernel)) (fun _ h9 => h9) rfl dX9_take_8 ?_
  refine lv_sipush (v := 4000) hx hb dX9_take_11 (by decide) ?_
  refine lv_icmp_ge (tgt := 41) hx hb dX9_take_14 (by decide) (fun c9 => absurd c9 (by decide)) (fun _ => ?_)
  refine lv_aload_n hx hb dX9_take_17 rfl (lv_at hl 1 rfl) ?_
  refine va_get (D := (dC, dI)) (ci := 9) (v := .ref a1) (C := RX9) (T := TX9) (N := 11) hx hb hts (by decide +kernel) hown hK hP 0 rfl rfl 0 (by decide) (hts (.fieldLink RX9 9 "ProofBench$Tape" "bytes" "[B") (by decide +kernel)) (fun _ h9 => h9) rfl dX9_take_18 ?_
  refine lv_aload_n hx hb dX9_take_21 rfl (lv_at hl 1 rfl) ?_
  refine va_get (D := (dC, dI)) (ci := 9) (v := .int 30) (C := RX9) (T := TX9) (N := 11) hx hb hts (by decide +kernel) hown hK hP 0 rfl rfl 6 (by decide) (hts (.fieldLink RX9 44 "ProofBench$Tape" "length" "I") (by decide +kernel)) (fun _ h9 => h9) rfl dX9_take_22 ?_
  refine lv_lload_n hx hb dX9_take_25 rfl (lv_at hl 2 rfl) ?_
  refine lv_iload_n hx hb dX9_take_26 rfl (lv_at hl 0 rfl) ?_
  refine lv_lshr hx hb dX9_take_27 rfl ?_
  refine lv_topl (fun y_31 ey_31 => ?_)
  refine lv_l2i hx hb dX9_take_28 rfl ?_
  refine lv_topi (fun r_32 er_32 => ?_)
  refine lv_i2b hx hb dX9_take_29 rfl ?_
  refine lv_topi (fun r_33 er_33 => ?_)
  refine va_bast hx hb hK hP hD hS 1 0 rfl rfl (show vp_in (30) 4000 from by unfold vp_in; decide) dX9_take_30 (fun H locs hP hD hS => ?_)
  obtain ⟨f_34, hP, hD⟩ : ∃ f9 : Nat → Int32, va_P (dC, dI) vwCl [(h0, .inr (9, [.ref a1, .ref a2, .ref a3, .ref a4, .ref a5, .ref a6, .int 30, .int 0, .int 0, .int 0, .int 0])), (a1, .inl (cA1, 4000, .inl (f9)))] H ∧ va_D A [(h0, .inr (9, [.ref a1, .ref a2, .ref a3, .ref a4, .ref a5, .ref a6, .int 30, .int 0, .int 0, .int 0, .int 0])), (a1, .inl (cA1, 4000, .inl (f9)))] := ⟨_, hP, hD⟩
  refine lv_aload_n hx hb dX9_take_31 rfl (lv_at hl 1 rfl) ?_
  refine lv_dup hx hb dX9_take_32 rfl ?_
  refine va_get (D := (dC, dI)) (ci := 9) (v := .int 30) (C := RX9) (T := TX9) (N := 11) hx hb hts (by decide +kernel) hown hK hP 0 rfl rfl 6 (by decide) (hts (.fieldLink RX9 44 "ProofBench$Tape" "length" "I") (by decide +kernel)) (fun _ h9 => h9) rfl dX9_take_33 ?_
  refine lv_iconst (v := 1) hx hb dX9_take_36 (by decide) ?_
  refine lv_iadd hx hb dX9_take_37 ?_
  refine lv_topi (fun z_35 e9 => ?_)
  obtain rfl : z_35 = 31 := by rw [e9]; decide
  refine va_put (D := (dC, dI)) (ci := 9) (v := .int 31) (ty := .int) (C := RX9) (T := TX9) (N := 11) hx hb hts (by decide +kernel) tyX9 tyX9_ok nmX9 hown hK hP hD hS 0 rfl rfl 6 (by decide) (hts (.fieldLink RX9 44 "ProofBench$Tape" "length" "I") (by decide +kernel)) (fun _ h9 => h9) rfl (by decide +kernel) rfl rfl (Nat.le_of_ble_eq_true rfl) dX9_take_38 (fun H locs hP hD hS => ?_)
  have hP : va_P (dC, dI) vwCl [(h0, .inr (9, [.ref a1, .ref a2, .ref a3, .ref a4, .ref a5, .ref a6, .int 31, .int 0, .int 0, .int 0, .int 0])), (a1, .inl (cA1, 4000, .inl (f_34)))] H := hP
  have hD : va_D A [(h0, .inr (9, [.ref a1, .ref a2, .ref a3, .ref a4, .ref a5, .ref a6, .int 31, .int 0, .int 0, .int 0, .int 0])), (a1, .inl (cA1, 4000, .inl (f_34)))] := hD
  refine lv_iinc (v := 0) (lv' := [(3, .int 0), (0, .ref h0), (1, .long x)]) hx hb dX9_take_41 hl (k := 0) rfl (by decide) (by decide) rfl (fun ls hl => ?_)
  refine lv_goto (tgt := 3) hx hb dX9_take_44 (by decide) ?_
  refine lv_iload_n hx hb dX9_take_3 rfl (lv_at hl 0 rfl) ?_
  refine lv_if_lt (tgt := 47) hx hb dX9_take_4 (by decide) (fun c9 => absurd c9 (by decide)) (fun _ => ?_)
  refine lv_aload_n hx hb dX9_take_7 rfl (lv_at hl 1 rfl) ?_
  refine va_get (D := (dC, dI)) (ci := 9) (v := .int 31) (C := RX9) (T := TX9) (N := 11) hx hb hts (by decide +kernel) hown hK hP 0 rfl rfl 6 (by decide) (hts (.fieldLink RX9 44 "ProofBench$Tape" "length" "I") (by decide +kernel)) (fun _ h9 => h9) rfl dX9_take_8 ?_
  refine lv_sipush (v := 4000) hx hb dX9_take_11 (by decide) ?_
  refine lv_icmp_ge (tgt := 41) hx hb dX9_take_14 (by decide) (fun c9 => absurd c9 (by decide)) (fun _ => ?_)
  refine lv_aload_n hx hb dX9_take_17 rfl (lv_at hl 1 rfl) ?_
  refine va_get (D := (dC, dI)) (ci := 9) (v := .ref a1) (C := RX9) (T := TX9) (N := 11) hx hb hts (by decide +kernel) hown hK hP 0 rfl rfl 0 (by decide) (hts (.fieldLink RX9 9 "ProofBench$Tape" "bytes" "[B") (by decide +kernel)) (fun _ h9 => h9) rfl dX9_take_18 ?_
  refine lv_aload_n hx hb dX9_take_21 rfl (lv_at hl 1 rfl) ?_
  refine va_get (D := (dC, dI)) (ci := 9) (v := .int 31) (C := RX9) (T := TX9) (N := 11) hx hb hts (by decide +kernel) hown hK hP 0 rfl rfl 6 (by decide) (hts (.fieldLink RX9 44 "ProofBench$Tape" "length" "I") (by decide +kernel)) (fun _ h9 => h9) rfl dX9_take_22 ?_
  refine lv_lload_n hx hb dX9_take_25 rfl (lv_at hl 2 rfl) ?_
  refine lv_iload_n hx hb dX9_take_26 rfl (lv_at hl 0 rfl) ?_
  refine lv_lshr hx hb dX9_take_27 rfl ?_
  refine lv_topl (fun y_36 ey_36 => ?_)
  refine lv_l2i hx hb dX9_take_28 rfl ?_
  refine lv_topi (fun r_37 er_37 => ?_)
  refine lv_i2b hx hb dX9_take_29 rfl ?_
  refine lv_topi (fun r_38 er_38 => ?_)
  refine va_bast hx hb hK hP hD hS 1 0 rfl rfl (show vp_in (31) 4000 from by unfold vp_in; decide) dX9_take_30 (fun H locs hP hD hS => ?_)
  obtain ⟨f_39, hP, hD⟩ : ∃ f9 : Nat → Int32, va_P (dC, dI) vwCl [(h0, .inr (9, [.ref a1, .ref a2, .ref a3, .ref a4, .ref a5, .ref a6, .int 31, .int 0, .int 0, .int 0, .int 0])), (a1, .inl (cA1, 4000, .inl (f9)))] H ∧ va_D A [(h0, .inr (9, [.ref a1, .ref a2, .ref a3, .ref a4, .ref a5, .ref a6, .int 31, .int 0, .int 0, .int 0, .int 0])), (a1, .inl (cA1, 4000, .inl (f9)))] := ⟨_, hP, hD⟩
  refine lv_aload_n hx hb dX9_take_31 rfl (lv_at hl 1 rfl) ?_
  refine lv_dup hx hb dX9_take_32 rfl ?_
  refine va_get (D := (dC, dI)) (ci := 9) (v := .int 31) (C := RX9) (T := TX9) (N := 11) hx hb hts (by decide +kernel) hown hK hP 0 rfl rfl 6 (by decide) (hts (.fieldLink RX9 44 "ProofBench$Tape" "length" "I") (by decide +kernel)) (fun _ h9 => h9) rfl dX9_take_33 ?_
  refine lv_iconst (v := 1) hx hb dX9_take_36 (by decide) ?_
  refine lv_iadd hx hb dX9_take_37 ?_
  refine lv_topi (fun z_40 e9 => ?_)
  obtain rfl : z_40 = 32 := by rw [e9]; decide
  refine va_put (D := (dC, dI)) (ci := 9) (v := .int 32) (ty := .int) (C := RX9) (T := TX9) (N := 11) hx hb hts (by decide +kernel) tyX9 tyX9_ok nmX9 hown hK hP hD hS 0 rfl rfl 6 (by decide) (hts (.fieldLink RX9 44 "ProofBench$Tape" "length" "I") (by decide +kernel)) (fun _ h9 => h9) rfl (by decide +kernel) rfl rfl (Nat.le_of_ble_eq_true rfl) dX9_take_38 (fun H locs hP hD hS => ?_)
  have hP : va_P (dC, dI) vwCl [(h0, .inr (9, [.ref a1, .ref a2, .ref a3, .ref a4, .ref a5, .ref a6, .int 32, .int 0, .int 0, .int 0, .int 0])), (a1, .inl (cA1, 4000, .inl (f_39)))] H := hP
  have hD : va_D A [(h0, .inr (9, [.ref a1, .ref a2, .ref a3, .ref a4, .ref a5, .ref a6, .int 32, .int 0, .int 0, .int 0, .int 0])), (a1, .inl (cA1, 4000, .inl (f_39)))] := hD
  refine lv_iinc (v := -8) (lv' := [(3, .int (-8)), (0, .ref h0), (1, .long x)]) hx hb dX9_take_41 hl (k := 0) rfl (by decide) (by decide) rfl (fun ls hl => ?_)
  refine lv_goto (tgt := 3) hx hb dX9_take_44 (by decide) ?_
  refine lv_iload_n hx hb dX9_take_3 rfl (lv_at hl 0 rfl) ?_
  refine lv_if_lt (tgt := 47) hx hb dX9_take_4 (by decide) (fun _ => ?_) (fun c9 => absurd c9 (by decide))
  have hP9 := hP.sub (ws' := [(h0, .inr (9, [.ref a1, .ref a2, .ref a3, .ref a4, .ref a5, .ref a6, .int 32, .int 0, .int 0, .int 0, .int 0])), (a1, .inl (cA1, 4000, .inl (f_39)))]) [0, 1] rfl
  have hD9 := hD.sub (ws' := [(h0, .inr (9, [.ref a1, .ref a2, .ref a3, .ref a4, .ref a5, .ref a6, .int 32, .int 0, .int 0, .int 0, .int 0])), (a1, .inl (cA1, 4000, .inl (f_39)))]) [0, 1] (by decide) rfl
  have hK9 := hK.sub (tys' := [(cA1, .byte)]) [0] rfl
  refine W.widen (k := 0) (n := 0) (by omega) (by omega) ?_
  exact W.vret hx hb hr (fun t ht hW => ⟨⟨(), rfl, trivial, f_39, by rw [ht]; exact hP9, va_K.moved hW.alike hK9, hD9⟩, hS.F ht⟩) hS.2.2 dX9_take_47
set_option maxHeartbeats 1000000 in
set_option maxRecDepth 100000 in
/-- take(x): eight bytes behind 32 -/
theorem c_take_32 (l : Launch) (dC : Nat → ClassId) (dI : Nat → Nat → Nat) (sz : Nat) (h0 a1 a2 a3 a4 a5 a6 : Nat) (cA1 : ClassId) (g1 : Nat → Int32) (x : Int64) : Met l yX9_take wc_X9_take ({ frames := 0, cells := 0, slots := 0, locals := 0 }) (va_Pc [.ref h0, .long x] (fun U => U.heap.size = sz ∧ va_P (dC, dI) vwCl [(h0, .inr (9, [.ref a1, .ref a2, .ref a3, .ref a4, .ref a5, .ref a6, .int 32, .int 0, .int 0, .int 0, .int 0])), (a1, .inl (cA1, 4000, .inl (g1)))] U.heap ∧ va_K (dC, dI) vwCl [(cA1, .byte)] U ∧ va_D (fun _ => True) [(h0, .inr (9, [.ref a1, .ref a2, .ref a3, .ref a4, .ref a5, .ref a6, .int 32, .int 0, .int 0, .int 0, .int 0])), (a1, .inl (cA1, 4000, .inl (g1)))])) (va_Qv (fun _ : Unit => True) (fun _ t => ∃ (k9 : Nat → Int32), va_P (dC, dI) vwCl [(h0, .inr (9, [.ref a1, .ref a2, .ref a3, .ref a4, .ref a5, .ref a6, .int 40, .int 0, .int 0, .int 0, .int 0])), (a1, .inl (cA1, 4000, .inl (k9)))] t.heap ∧ va_K (dC, dI) vwCl [(cA1, .byte)] t ∧ va_D (va_A [(h0, .inr (9, [.ref a1, .ref a2, .ref a3, .ref a4, .ref a5, .ref a6, .int 32, .int 0, .int 0, .int 0, .int 0])), (a1, .inl (cA1, 4000, .inl (g1)))] sz) [(h0, .inr (9, [.ref a1, .ref a2, .ref a3, .ref a4, .ref a5, .ref a6, .int 40, .int 0, .int 0, .int 0, .int 0])), (a1, .inl (cA1, 4000, .inl (k9)))]) (va_A [(h0, .inr (9, [.ref a1, .ref a2, .ref a3, .ref a4, .ref a5, .ref a6, .int 32, .int 0, .int 0, .int 0, .int 0])), (a1, .inl (cA1, 4000, .inl (g1)))] sz)) (0) (0) (va_A [(h0, .inr (9, [.ref a1, .ref a2, .ref a3, .ref a4, .ref a5, .ref a6, .int 32, .int 0, .int 0, .int 0, .int 0])), (a1, .inl (cA1, 4000, .inl (g1)))] sz) := by
  refine Met.ofW (cc := cX9_take) (maxL := 4) (ret := none) (by decide) rfl ?_
  intro p e s m args below meth c s₁ B hml hv
  obtain ⟨rfl, hsz, hP, hK, hD0⟩ := hv
  have hx := B.exec
  have hb := B.bytes
  have hr := B.returns
  have hts := atoms_spec (ws := wc_X9_take) B.pre
  have hown : s.vm.findClass RX9 = some m.cls := findClass_of_methodNamed B.named
  have hlocks := B.notSynchronized
  subst hsz
  have hD := hD0.self (sz := s.heap.size)
  generalize hAe : va_A [(h0, .inr (9, [.ref a1, .ref a2, .ref a3, .ref a4, .ref a5, .ref a6, .int 32, .int 0, .int 0, .int 0, .int 0])), (a1, .inl (cA1, 4000, .inl (g1)))] s.heap.size = A at hD ⊢
  have hA : ∀ q : Nat, s.heap.size ≤ q → A q := fun q h => by rw [← hAe]; exact Or.inr h
  have hS : va_S A s.heap s.heap [] := va_S.rf
  have hl := lv_entry ([.ref h0, .long x]) (n := 4) (Nat.le_of_ble_eq_true rfl)
  rw [lg_entry_eq]
  generalize (lg_sl ([.ref h0, .long x]) ++ List.replicate (4 - (lg_sl ([.ref h0, .long x])).length) Slot.unset).toArray = ls at hl ⊢
  have hl : lv_has ls 4 [(0, .ref h0), (1, .long x)] := hl
  refine lv_bipush (v := 56) hx hb dX9_take_0 (by decide) ?_
  refine lv_istore_n (lv' := [(3, .int 56), (0, .ref h0), (1, .long x)]) hx hb dX9_take_2 rfl hl (by decide) rfl (fun ls hl => ?_)
  refine lv_iload_n hx hb dX9_take_3 rfl (lv_at hl 0 rfl) ?_
  refine lv_if_lt (tgt := 47) hx hb dX9_take_4 (by decide) (fun c9 => absurd c9 (by decide)) (fun _ => ?_)
  refine lv_aload_n hx hb dX9_take_7 rfl (lv_at hl 1 rfl) ?_
  refine va_get (D := (dC, dI)) (ci := 9) (v := .int 32) (C := RX9) (T := TX9) (N := 11) hx hb hts (by decide +kernel) hown hK hP 0 rfl rfl 6 (by decide) (hts (.fieldLink RX9 44 "ProofBench$Tape" "length" "I") (by decide +kernel)) (fun _ h9 => h9) rfl dX9_take_8 ?_
  refine lv_sipush (v := 4000) hx hb dX9_take_11 (by decide) ?_
  refine lv_icmp_ge (tgt := 41) hx hb dX9_take_14 (by decide) (fun c9 => absurd c9 (by decide)) (fun _ => ?_)
  refine lv_aload_n hx hb dX9_take_17 rfl (lv_at hl 1 rfl) ?_
  refine va_get (D := (dC, dI)) (ci := 9) (v := .ref a1) (C := RX9) (T := TX9) (N := 11) hx hb hts (by decide +kernel) hown hK hP 0 rfl rfl 0 (by decide) (hts (.fieldLink RX9 9 "ProofBench$Tape" "bytes" "[B") (by decide +kernel)) (fun _ h9 => h9) rfl dX9_take_18 ?_
  refine lv_aload_n hx hb dX9_take_21 rfl (lv_at hl 1 rfl) ?_
  refine va_get (D := (dC, dI)) (ci := 9) (v := .int 32) (C := RX9) (T := TX9) (N := 11) hx hb hts (by decide +kernel) hown hK hP 0 rfl rfl 6 (by decide) (hts (.fieldLink RX9 44 "ProofBench$Tape" "length" "I") (by decide +kernel)) (fun _ h9 => h9) rfl dX9_take_22 ?_
  refine lv_lload_n hx hb dX9_take_25 rfl (lv_at hl 2 rfl) ?_
  refine lv_iload_n hx hb dX9_take_26 rfl (lv_at hl 0 rfl) ?_
  refine lv_lshr hx hb dX9_take_27 rfl ?_
  refine lv_topl (fun y_1 ey_1 => ?_)
  refine lv_l2i hx hb dX9_take_28 rfl ?_
  refine lv_topi (fun r_2 er_2 => ?_)
  refine lv_i2b hx hb dX9_take_29 rfl ?_
  refine lv_topi (fun r_3 er_3 => ?_)
  refine va_bast hx hb hK hP hD hS 1 0 rfl rfl (show vp_in (32) 4000 from by unfold vp_in; decide) dX9_take_30 (fun H locs hP hD hS => ?_)
  obtain ⟨f_4, hP, hD⟩ : ∃ f9 : Nat → Int32, va_P (dC, dI) vwCl [(h0, .inr (9, [.ref a1, .ref a2, .ref a3, .ref a4, .ref a5, .ref a6, .int 32, .int 0, .int 0, .int 0, .int 0])), (a1, .inl (cA1, 4000, .inl (f9)))] H ∧ va_D A [(h0, .inr (9, [.ref a1, .ref a2, .ref a3, .ref a4, .ref a5, .ref a6, .int 32, .int 0, .int 0, .int 0, .int 0])), (a1, .inl (cA1, 4000, .inl (f9)))] := ⟨_, hP, hD⟩
  refine lv_aload_n hx hb dX9_take_31 rfl (lv_at hl 1 rfl) ?_
  refine lv_dup hx hb dX9_take_32 rfl ?_
  refine va_get (D := (dC, dI)) (ci := 9) (v := .int 32) (C := RX9) (T := TX9) (N := 11) hx hb hts (by decide +kernel) hown hK hP 0 rfl rfl 6 (by decide) (hts (.fieldLink RX9 44 "ProofBench$Tape" "length" "I") (by decide +kernel)) (fun _ h9 => h9) rfl dX9_take_33 ?_
  refine lv_iconst (v := 1) hx hb dX9_take_36 (by decide) ?_
  refine lv_iadd hx hb dX9_take_37 ?_
  refine lv_topi (fun z_5 e9 => ?_)
  obtain rfl : z_5 = 33 := by rw [e9]; decide
  refine va_put (D := (dC, dI)) (ci := 9) (v := .int 33) (ty := .int) (C := RX9) (T := TX9) (N := 11) hx hb hts (by decide +kernel) tyX9 tyX9_ok nmX9 hown hK hP hD hS 0 rfl rfl 6 (by decide) (hts (.fieldLink RX9 44 "ProofBench$Tape" "length" "I") (by decide +kernel)) (fun _ h9 => h9) rfl (by decide +kernel) rfl rfl (Nat.le_of_ble_eq_true rfl) dX9_take_38 (fun H locs hP hD hS => ?_)
  have hP : va_P (dC, dI) vwCl [(h0, .inr (9, [.ref a1, .ref a2, .ref a3, .ref a4, .ref a5, .ref a6, .int 33, .int 0, .int 0, .int 0, .int 0])), (a1, .inl (cA1, 4000, .inl (f_4)))] H := hP
  have hD : va_D A [(h0, .inr (9, [.ref a1, .ref a2, .ref a3, .ref a4, .ref a5, .ref a6, .int 33, .int 0, .int 0, .int 0, .int 0])), (a1, .inl (cA1, 4000, .inl (f_4)))] := hD
  refine lv_iinc (v := 48) (lv' := [(3, .int 48), (0, .ref h0), (1, .long x)]) hx hb dX9_take_41 hl (k := 0) rfl (by decide) (by decide) rfl (fun ls hl => ?_)
  refine lv_goto (tgt := 3) hx hb dX9_take_44 (by decide) ?_
  refine lv_iload_n hx hb dX9_take_3 rfl (lv_at hl 0 rfl) ?_
  refine lv_if_lt (tgt := 47) hx hb dX9_take_4 (by decide) (fun c9 => absurd c9 (by decide)) (fun _ => ?_)
  refine lv_aload_n hx hb dX9_take_7 rfl (lv_at hl 1 rfl) ?_
  refine va_get (D := (dC, dI)) (ci := 9) (v := .int 33) (C := RX9) (T := TX9) (N := 11) hx hb hts (by decide +kernel) hown hK hP 0 rfl rfl 6 (by decide) (hts (.fieldLink RX9 44 "ProofBench$Tape" "length" "I") (by decide +kernel)) (fun _ h9 => h9) rfl dX9_take_8 ?_
  refine lv_sipush (v := 4000) hx hb dX9_take_11 (by decide) ?_
  refine lv_icmp_ge (tgt := 41) hx hb dX9_take_14 (by decide) (fun c9 => absurd c9 (by decide)) (fun _ => ?_)
  refine lv_aload_n hx hb dX9_take_17 rfl (lv_at hl 1 rfl) ?_
  refine va_get (D := (dC, dI)) (ci := 9) (v := .ref a1) (C := RX9) (T := TX9) (N := 11) hx hb hts (by decide +kernel) hown hK hP 0 rfl rfl 0 (by decide) (hts (.fieldLink RX9 9 "ProofBench$Tape" "bytes" "[B") (by decide +kernel)) (fun _ h9 => h9) rfl dX9_take_18 ?_
  refine lv_aload_n hx hb dX9_take_21 rfl (lv_at hl 1 rfl) ?_
  refine va_get (D := (dC, dI)) (ci := 9) (v := .int 33) (C := RX9) (T := TX9) (N := 11) hx hb hts (by decide +kernel) hown hK hP 0 rfl rfl 6 (by decide) (hts (.fieldLink RX9 44 "ProofBench$Tape" "length" "I") (by decide +kernel)) (fun _ h9 => h9) rfl dX9_take_22 ?_
  refine lv_lload_n hx hb dX9_take_25 rfl (lv_at hl 2 rfl) ?_
  refine lv_iload_n hx hb dX9_take_26 rfl (lv_at hl 0 rfl) ?_
  refine lv_lshr hx hb dX9_take_27 rfl ?_
  refine lv_topl (fun y_6 ey_6 => ?_)
  refine lv_l2i hx hb dX9_take_28 rfl ?_
  refine lv_topi (fun r_7 er_7 => ?_)
  refine lv_i2b hx hb dX9_take_29 rfl ?_
  refine lv_topi (fun r_8 er_8 => ?_)
  refine va_bast hx hb hK hP hD hS 1 0 rfl rfl (show vp_in (33) 4000 from by unfold vp_in; decide) dX9_take_30 (fun H locs hP hD hS => ?_)
  obtain ⟨f_9, hP, hD⟩ : ∃ f9 : Nat → Int32, va_P (dC, dI) vwCl [(h0, .inr (9, [.ref a1, .ref a2, .ref a3, .ref a4, .ref a5, .ref a6, .int 33, .int 0, .int 0, .int 0, .int 0])), (a1, .inl (cA1, 4000, .inl (f9)))] H ∧ va_D A [(h0, .inr (9, [.ref a1, .ref a2, .ref a3, .ref a4, .ref a5, .ref a6, .int 33, .int 0, .int 0, .int 0, .int 0])), (a1, .inl (cA1, 4000, .inl (f9)))] := ⟨_, hP, hD⟩
  refine lv_aload_n hx hb dX9_take_31 rfl (lv_at hl 1 rfl) ?_
  refine lv_dup hx hb dX9_take_32 rfl ?_
  refine va_get (D := (dC, dI)) (ci := 9) (v := .int 33) (C := RX9) (T := TX9) (N := 11) hx hb hts (by decide +kernel) hown hK hP 0 rfl rfl 6 (by decide) (hts (.fieldLink RX9 44 "ProofBench$Tape" "length" "I") (by decide +kernel)) (fun _ h9 => h9) rfl dX9_take_33 ?_
  refine lv_iconst (v := 1) hx hb dX9_take_36 (by decide) ?_
  refine lv_iadd hx hb dX9_take_37 ?_
  refine lv_topi (fun z_10 e9 => ?_)
  obtain rfl : z_10 = 34 := by rw [e9]; decide
  refine va_put (D := (dC, dI)) (ci := 9) (v := .int 34) (ty := .int) (C := RX9) (T := TX9) (N := 11) hx hb hts (by decide +kernel) tyX9 tyX9_ok nmX9 hown hK hP hD hS 0 rfl rfl 6 (by decide) (hts (.fieldLink RX9 44 "ProofBench$Tape" "length" "I") (by decide +kernel)) (fun _ h9 => h9) rfl (by decide +kernel) rfl rfl (Nat.le_of_ble_eq_true rfl) dX9_take_38 (fun H locs hP hD hS => ?_)
  have hP : va_P (dC, dI) vwCl [(h0, .inr (9, [.ref a1, .ref a2, .ref a3, .ref a4, .ref a5, .ref a6, .int 34, .int 0, .int 0, .int 0, .int 0])), (a1, .inl (cA1, 4000, .inl (f_9)))] H := hP
  have hD : va_D A [(h0, .inr (9, [.ref a1, .ref a2, .ref a3, .ref a4, .ref a5, .ref a6, .int 34, .int 0, .int 0, .int 0, .int 0])), (a1, .inl (cA1, 4000, .inl (f_9)))] := hD
  refine lv_iinc (v := 40) (lv' := [(3, .int 40), (0, .ref h0), (1, .long x)]) hx hb dX9_take_41 hl (k := 0) rfl (by decide) (by decide) rfl (fun ls hl => ?_)
  refine lv_goto (tgt := 3) hx hb dX9_take_44 (by decide) ?_
  refine lv_iload_n hx hb dX9_take_3 rfl (lv_at hl 0 rfl) ?_
  refine lv_if_lt (tgt := 47) hx hb dX9_take_4 (by decide) (fun c9 => absurd c9 (by decide)) (fun _ => ?_)
  refine lv_aload_n hx hb dX9_take_7 rfl (lv_at hl 1 rfl) ?_
  refine va_get (D := (dC, dI)) (ci := 9) (v := .int 34) (C := RX9) (T := TX9) (N := 11) hx hb hts (by decide +kernel) hown hK hP 0 rfl rfl 6 (by decide) (hts (.fieldLink RX9 44 "ProofBench$Tape" "length" "I") (by decide +kernel)) (fun _ h9 => h9) rfl dX9_take_8 ?_
  refine lv_sipush (v := 4000) hx hb dX9_take_11 (by decide) ?_
  refine lv_icmp_ge (tgt := 41) hx hb dX9_take_14 (by decide) (fun c9 => absurd c9 (by decide)) (fun _ => ?_)
  refine lv_aload_n hx hb dX9_take_17 rfl (lv_at hl 1 rfl) ?_
  refine va_get (D := (dC, dI)) (ci := 9) (v := .ref a1) (C := RX9) (T := TX9) (N := 11) hx hb hts (by decide +kernel) hown hK hP 0 rfl rfl 0 (by decide) (hts (.fieldLink RX9 9 "ProofBench$Tape" "bytes" "[B") (by decide +kernel)) (fun _ h9 => h9) rfl dX9_take_18 ?_
  refine lv_aload_n hx hb dX9_take_21 rfl (lv_at hl 1 rfl) ?_
  refine va_get (D := (dC, dI)) (ci := 9) (v := .int 34) (C := RX9) (T := TX9) (N := 11) hx hb hts (by decide +kernel) hown hK hP 0 rfl rfl 6 (by decide) (hts (.fieldLink RX9 44 "ProofBench$Tape" "length" "I") (by decide +kernel)) (fun _ h9 => h9) rfl dX9_take_22 ?_
  refine lv_lload_n hx hb dX9_take_25 rfl (lv_at hl 2 rfl) ?_
  refine lv_iload_n hx hb dX9_take_26 rfl (lv_at hl 0 rfl) ?_
  refine lv_lshr hx hb dX9_take_27 rfl ?_
  refine lv_topl (fun y_11 ey_11 => ?_)
  refine lv_l2i hx hb dX9_take_28 rfl ?_
  refine lv_topi (fun r_12 er_12 => ?_)
  refine lv_i2b hx hb dX9_take_29 rfl ?_
  refine lv_topi (fun r_13 er_13 => ?_)
  refine va_bast hx hb hK hP hD hS 1 0 rfl rfl (show vp_in (34) 4000 from by unfold vp_in; decide) dX9_take_30 (fun H locs hP hD hS => ?_)
  obtain ⟨f_14, hP, hD⟩ : ∃ f9 : Nat → Int32, va_P (dC, dI) vwCl [(h0, .inr (9, [.ref a1, .ref a2, .ref a3, .ref a4, .ref a5, .ref a6, .int 34, .int 0, .int 0, .int 0, .int 0])), (a1, .inl (cA1, 4000, .inl (f9)))] H ∧ va_D A [(h0, .inr (9, [.ref a1, .ref a2, .ref a3, .ref a4, .ref a5, .ref a6, .int 34, .int 0, .int 0, .int 0, .int 0])), (a1, .inl (cA1, 4000, .inl (f9)))] := ⟨_, hP, hD⟩
  refine lv_aload_n hx hb dX9_take_31 rfl (lv_at hl 1 rfl) ?_
  refine lv_dup hx hb dX9_take_32 rfl ?_
  refine va_get (D := (dC, dI)) (ci := 9) (v := .int 34) (C := RX9) (T := TX9) (N := 11) hx hb hts (by decide +kernel) hown hK hP 0 rfl rfl 6 (by decide) (hts (.fieldLink RX9 44 "ProofBench$Tape" "length" "I") (by decide +kernel)) (fun _ h9 => h9) rfl dX9_take_33 ?_
  refine lv_iconst (v := 1) hx hb dX9_take_36 (by decide) ?_
  refine lv_iadd hx hb dX9_take_37 ?_
  refine lv_topi (fun z_15 e9 => ?_)
  obtain rfl : z_15 = 35 := by rw [e9]; decide
  refine va_put (D := (dC, dI)) (ci := 9) (v := .int 35) (ty := .int) (C := RX9) (T := TX9) (N := 11) hx hb hts (by decide +kernel) tyX9 tyX9_ok nmX9 hown hK hP hD hS 0 rfl rfl 6 (by decide) (hts (.fieldLink RX9 44 "ProofBench$Tape" "length" "I") (by decide +kernel)) (fun _ h9 => h9) rfl (by decide +kernel) rfl rfl (Nat.le_of_ble_eq_true rfl) dX9_take_38 (fun H locs hP hD hS => ?_)
  have hP : va_P (dC, dI) vwCl [(h0, .inr (9, [.ref a1, .ref a2, .ref a3, .ref a4, .ref a5, .ref a6, .int 35, .int 0, .int 0, .int 0, .int 0])), (a1, .inl (cA1, 4000, .inl (f_14)))] H := hP
  have hD : va_D A [(h0, .inr (9, [.ref a1, .ref a2, .ref a3, .ref a4, .ref a5, .ref a6, .int 35, .int 0, .int 0, .int 0, .int 0])), (a1, .inl (cA1, 4000, .inl (f_14)))] := hD
  refine lv_iinc (v := 32) (lv' := [(3, .int 32), (0, .ref h0), (1, .long x)]) hx hb dX9_take_41 hl (k := 0) rfl (by decide) (by decide) rfl (fun ls hl => ?_)
  refine lv_goto (tgt := 3) hx hb dX9_take_44 (by decide) ?_
  refine lv_iload_n hx hb dX9_take_3 rfl (lv_at hl 0 rfl) ?_
  refine lv_if_lt (tgt := 47) hx hb dX9_take_4 (by decide) (fun c9 => absurd c9 (by decide)) (fun _ => ?_)
  refine lv_aload_n hx hb dX9_take_7 rfl (lv_at hl 1 rfl) ?_
  refine va_get (D := (dC, dI)) (ci := 9) (v := .int 35) (C := RX9) (T := TX9) (N := 11) hx hb hts (by decide +kernel) hown hK hP 0 rfl rfl 6 (by decide) (hts (.fieldLink RX9 44 "ProofBench$Tape" "length" "I") (by decide +kernel)) (fun _ h9 => h9) rfl dX9_take_8 ?_
  refine lv_sipush (v := 4000) hx hb dX9_take_11 (by decide) ?_
  refine lv_icmp_ge (tgt := 41) hx hb dX9_take_14 (by decide) (fun c9 => absurd c9 (by decide)) (fun _ => ?_)
  refine lv_aload_n hx hb dX9_take_17 rfl (lv_at hl 1 rfl) ?_
  refine va_get (D := (dC, dI)) (ci := 9) (v := .ref a1) (C := RX9) (T := TX9) (N := 11) hx hb hts (by decide +kernel) hown hK hP 0 rfl rfl 0 (by decide) (hts (.fieldLink RX9 9 "ProofBench$Tape" "bytes" "[B") (by decide +kernel)) (fun _ h9 => h9) rfl dX9_take_18 ?_
  refine lv_aload_n hx hb dX9_take_21 rfl (lv_at hl 1 rfl) ?_
  refine va_get (D := (dC, dI)) (ci := 9) (v := .int 35) (C := RX9) (T := TX9) (N := 11) hx hb hts (by decide +kernel) hown hK hP 0 rfl rfl 6 (by decide) (hts (.fieldLink RX9 44 "ProofBench$Tape" "length" "I") (by decide +kernel)) (fun _ h9 => h9) rfl dX9_take_22 ?_
  refine lv_lload_n hx hb dX9_take_25 rfl (lv_at hl 2 rfl) ?_
  refine lv_iload_n hx hb dX9_take_26 rfl (lv_at hl 0 rfl) ?_
  refine lv_lshr hx hb dX9_take_27 rfl ?_
  refine lv_topl (fun y_16 ey_16 => ?_)
  refine lv_l2i hx hb dX9_take_28 rfl ?_
  refine lv_topi (fun r_17 er_17 => ?_)
  refine lv_i2b hx hb dX9_take_29 rfl ?_
  refine lv_topi (fun r_18 er_18 => ?_)
  refine va_bast hx hb hK hP hD hS 1 0 rfl rfl (show vp_in (35) 4000 from by unfold vp_in; decide) dX9_take_30 (fun H locs hP hD hS => ?_)
  obtain ⟨f_19, hP, hD⟩ : ∃ f9 : Nat → Int32, va_P (dC, dI) vwCl [(h0, .inr (9, [.ref a1, .ref a2, .ref a3, .ref a4, .ref a5, .ref a6, .int 35, .int 0, .int 0, .int 0, .int 0])), (a1, .inl (cA1, 4000, .inl (f9)))] H ∧ va_D A [(h0, .inr (9, [.ref a1, .ref a2, .ref a3, .ref a4, .ref a5, .ref a6, .int 35, .int 0, .int 0, .int 0, .int 0])), (a1, .inl (cA1, 4000, .inl (f9)))] := ⟨_, hP, hD⟩
  refine lv_aload_n hx hb dX9_take_31 rfl (lv_at hl 1 rfl) ?_
  refine lv_dup hx hb dX9_take_32 rfl ?_
  refine va_get (D := (dC, dI)) (ci := 9) (v := .int 35) (C := RX9) (T := TX9) (N := 11) hx hb hts (by decide +kernel) hown hK hP 0 rfl rfl 6 (by decide) (hts (.fieldLink RX9 44 "ProofBench$Tape" "length" "I") (by decide +kernel)) (fun _ h9 => h9) rfl dX9_take_33 ?_
  refine lv_iconst (v := 1) hx hb dX9_take_36 (by decide) ?_
  refine lv_iadd hx hb dX9_take_37 ?_
  refine lv_topi (fun z_20 e9 => ?_)
  obtain rfl : z_20 = 36 := by rw [e9]; decide
  refine va_put (D := (dC, dI)) (ci := 9) (v := .int 36) (ty := .int) (C := RX9) (T := TX9) (N := 11) hx hb hts (by decide +kernel) tyX9 tyX9_ok nmX9 hown hK hP hD hS 0 rfl rfl 6 (by decide) (hts (.fieldLink RX9 44 "ProofBench$Tape" "length" "I") (by decide +kernel)) (fun _ h9 => h9) rfl (by decide +kernel) rfl rfl (Nat.le_of_ble_eq_true rfl) dX9_take_38 (fun H locs hP hD hS => ?_)
  have hP : va_P (dC, dI) vwCl [(h0, .inr (9, [.ref a1, .ref a2, .ref a3, .ref a4, .ref a5, .ref a6, .int 36, .int 0, .int 0, .int 0, .int 0])), (a1, .inl (cA1, 4000, .inl (f_19)))] H := hP
  have hD : va_D A [(h0, .inr (9, [.ref a1, .ref a2, .ref a3, .ref a4, .ref a5, .ref a6, .int 36, .int 0, .int 0, .int 0, .int 0])), (a1, .inl (cA1, 4000, .inl (f_19)))] := hD
  refine lv_iinc (v := 24) (lv' := [(3, .int 24), (0, .ref h0), (1, .long x)]) hx hb dX9_take_41 hl (k := 0) rfl (by decide) (by decide) rfl (fun ls hl => ?_)
  refine lv_goto (tgt := 3) hx hb dX9_take_44 (by decide) ?_
  refine lv_iload_n hx hb dX9_take_3 rfl (lv_at hl 0 rfl) ?_
  refine lv_if_lt (tgt := 47) hx hb dX9_take_4 (by decide) (fun c9 => absurd c9 (by decide)) (fun _ => ?_)
  refine lv_aload_n hx hb dX9_take_7 rfl (lv_at hl 1 rfl) ?_
  refine va_get (D := (dC, dI)) (ci := 9) (v := .int 36) (C := RX9) (T := TX9) (N := 11) hx hb hts (by decide +kernel) hown hK hP 0 rfl rfl 6 (by decide) (hts (.fieldLink RX9 44 "ProofBench$Tape" "length" "I") (by decide +kernel)) (fun _ h9 => h9) rfl dX9_take_8 ?_
  refine lv_sipush (v := 4000) hx hb dX9_take_11 (by decide) ?_
  refine lv_icmp_ge (tgt := 41) hx hb dX9_take_14 (by decide) (fun c9 => absurd c9 (by decide)) (fun _ => ?_)
  refine lv_aload_n hx hb dX9_take_17 rfl (lv_at hl 1 rfl) ?_
  refine va_get (D := (dC, dI)) (ci := 9) (v := .ref a1) (C := RX9) (T := TX9) (N := 11) hx hb hts (by decide +kernel) hown hK hP 0 rfl rfl 0 (by decide) (hts (.fieldLink RX9 9 "ProofBench$Tape" "bytes" "[B") (by decide +kernel)) (fun _ h9 => h9) rfl dX9_take_18 ?_
  refine lv_aload_n hx hb dX9_take_21 rfl (lv_at hl 1 rfl) ?_
  refine va_get (D := (dC, dI)) (ci := 9) (v := .int 36) (C := RX9) (T := TX9) (N := 11) hx hb hts (by decide +kernel) hown hK hP 0 rfl rfl 6 (by decide) (hts (.fieldLink RX9 44 "ProofBench$Tape" "length" "I") (by decide +kernel)) (fun _ h9 => h9) rfl dX9_take_22 ?_
  refine lv_lload_n hx hb dX9_take_25 rfl (lv_at hl 2 rfl) ?_
  refine lv_iload_n hx hb dX9_take_26 rfl (lv_at hl 0 rfl) ?_
  refine lv_lshr hx hb dX9_take_27 rfl ?_
  refine lv_topl (fun y_21 ey_21 => ?_)
  refine lv_l2i hx hb dX9_take_28 rfl ?_
  refine lv_topi (fun r_22 er_22 => ?_)
  refine lv_i2b hx hb dX9_take_29 rfl ?_
  refine lv_topi (fun r_23 er_23 => ?_)
  refine va_bast hx hb hK hP hD hS 1 0 rfl rfl (show vp_in (36) 4000 from by unfold vp_in; decide) dX9_take_30 (fun H locs hP hD hS => ?_)
  obtain ⟨f_24, hP, hD⟩ : ∃ f9 : Nat → Int32, va_P (dC, dI) vwCl [(h0, .inr (9, [.ref a1, .ref a2, .ref a3, .ref a4, .ref a5, .ref a6, .int 36, .int 0, .int 0, .int 0, .int 0])), (a1, .inl (cA1, 4000, .inl (f9)))] H ∧ va_D A [(h0, .inr (9, [.ref a1, .ref a2, .ref a3, .ref a4, .ref a5, .ref a6, .int 36, .int 0, .int 0, .int 0, .int 0])), (a1, .inl (cA1, 4000, .inl (f9)))] := ⟨_, hP, hD⟩
  refine lv_aload_n hx hb dX9_take_31 rfl (lv_at hl 1 rfl) ?_
  refine lv_dup hx hb dX9_take_32 rfl ?_
  refine va_get (D := (dC, dI)) (ci := 9) (v := .int 36) (C := RX9) (T := TX9) (N := 11) hx hb hts (by decide +kernel) hown hK hP 0 rfl rfl 6 (by decide) (hts (.fieldLink RX9 44 "ProofBench$Tape" "length" "I") (by decide +kernel)) (fun _ h9 => h9) rfl dX9_take_33 ?_
  refine lv_iconst (v := 1) hx hb dX9_take_36 (by decide) ?_
  refine lv_iadd hx hb dX9_take_37 ?_
  refine lv_topi (fun z_25 e9 => ?_)
  obtain rfl : z_25 = 37 := by rw [e9]; decide
  refine va_put (D := (dC, dI)) (ci := 9) (v := .int 37) (ty := .int) (C := RX9) (T := TX9) (N := 11) hx hb hts (by decide +kernel) tyX9 tyX9_ok nmX9 hown hK hP hD hS 0 rfl rfl 6 (by decide) (hts (.fieldLink RX9 44 "ProofBench$Tape" "length" "I") (by decide +kernel)) (fun _ h9 => h9) rfl (by decide +kernel) rfl rfl (Nat.le_of_ble_eq_true rfl) dX9_take_38 (fun H locs hP hD hS => ?_)
  have hP : va_P (dC, dI) vwCl [(h0, .inr (9, [.ref a1, .ref a2, .ref a3, .ref a4, .ref a5, .ref a6, .int 37, .int 0, .int 0, .int 0, .int 0])), (a1, .inl (cA1, 4000, .inl (f_24)))] H := hP
  have hD : va_D A [(h0, .inr (9, [.ref a1, .ref a2, .ref a3, .ref a4, .ref a5, .ref a6, .int 37, .int 0, .int 0, .int 0, .int 0])), (a1, .inl (cA1, 4000, .inl (f_24)))] := hD
  refine lv_iinc (v := 16) (lv' := [(3, .int 16), (0, .ref h0), (1, .long x)]) hx hb dX9_take_41 hl (k := 0) rfl (by decide) (by decide) rfl (fun ls hl => ?_)
  refine lv_goto (tgt := 3) hx hb dX9_take_44 (by decide) ?_
  refine lv_iload_n hx hb dX9_take_3 rfl (lv_at hl 0 rfl) ?_
  refine lv_if_lt (tgt := 47) hx hb dX9_take_4 (by decide) (fun c9 => absurd c9 (by decide)) (fun _ => ?_)
  refine lv_aload_n hx hb dX9_take_7 rfl (lv_at hl 1 rfl) ?_
  refine va_get (D := (dC, dI)) (ci := 9) (v := .int 37) (C := RX9) (T := TX9) (N := 11) hx hb hts (by decide +kernel) hown hK hP 0 rfl rfl 6 (by decide) (hts (.fieldLink RX9 44 "ProofBench$Tape" "length" "I") (by decide +kernel)) (fun _ h9 => h9) rfl dX9_take_8 ?_
  refine lv_sipush (v := 4000) hx hb dX9_take_11 (by decide) ?_
  refine lv_icmp_ge (tgt := 41) hx hb dX9_take_14 (by decide) (fun c9 => absurd c9 (by decide)) (fun _ => ?_)
  refine lv_aload_n hx hb dX9_take_17 rfl (lv_at hl 1 rfl) ?_
  refine va_get (D := (dC, dI)) (ci := 9) (v := .ref a1) (C := RX9) (T := TX9) (N := 11) hx hb hts (by decide +kernel) hown hK hP 0 rfl rfl 0 (by decide) (hts (.fieldLink RX9 9 "ProofBench$Tape" "bytes" "[B") (by decide +kernel)) (fun _ h9 => h9) rfl dX9_take_18 ?_
  refine lv_aload_n hx hb dX9_take_21 rfl (lv_at hl 1 rfl) ?_
  refine va_get (D := (dC, dI)) (ci := 9) (v := .int 37) (C := RX9) (T := TX9) (N := 11) hx hb hts (by decide +kernel) hown hK hP 0 rfl rfl 6 (by decide) (hts (.fieldLink RX9 44 "ProofBench$Tape" "length" "I") (by decide +kernel)) (fun _ h9 => h9) rfl dX9_take_22 ?_
  refine lv_lload_n hx hb dX9_take_25 rfl (lv_at hl 2 rfl) ?_
  refine lv_iload_n hx hb dX9_take_26 rfl (lv_at hl 0 rfl) ?_
  refine lv_lshr hx hb dX9_take_27 rfl ?_
  refine lv_topl (fun y_26 ey_26 => ?_)
  refine lv_l2i hx hb dX9_take_28 rfl ?_
  refine lv_topi (fun r_27 er_27 => ?_)
  refine lv_i2b hx hb dX9_take_29 rfl ?_
  refine lv_topi (fun r_28 er_28 => ?_)
  refine va_bast hx hb hK hP hD hS 1 0 rfl rfl (show vp_in (37) 4000 from by unfold vp_in; decide) dX9_take_30 (fun H locs hP hD hS => ?_)
  obtain ⟨f_29, hP, hD⟩ : ∃ f9 : Nat → Int32, va_P (dC, dI) vwCl [(h0, .inr (9, [.ref a1, .ref a2, .ref a3, .ref a4, .ref a5, .ref a6, .int 37, .int 0, .int 0, .int 0, .int 0])), (a1, .inl (cA1, 4000, .inl (f9)))] H ∧ va_D A [(h0, .inr (9, [.ref a1, .ref a2, .ref a3, .ref a4, .ref a5, .ref a6, .int 37, .int 0, .int 0, .int 0, .int 0])), (a1, .inl (cA1, 4000, .inl (f9)))] := ⟨_, hP, hD⟩
  refine lv_aload_n hx hb dX9_take_31 rfl (lv_at hl 1 rfl) ?_
  refine lv_dup hx hb dX9_take_32 rfl ?_
  refine va_get (D := (dC, dI)) (ci := 9) (v := .int 37) (C := RX9) (T := TX9) (N := 11) hx hb hts (by decide +kernel) hown hK hP 0 rfl rfl 6 (by decide) (hts (.fieldLink RX9 44 "ProofBench$Tape" "length" "I") (by decide +kernel)) (fun _ h9 => h9) rfl dX9_take_33 ?_
  refine lv_iconst (v := 1) hx hb dX9_take_36 (by decide) ?_
  refine lv_iadd hx hb dX9_take_37 ?_
  refine lv_topi (fun z_30 e9 => ?_)
  obtain rfl : z_30 = 38 := by rw [e9]; decide
  refine va_put (D := (dC, dI)) (ci := 9) (v := .int 38) (ty := .int) (C := RX9) (T := TX9) (N := 11) hx hb hts (by decide +kernel) tyX9 tyX9_ok nmX9 hown hK hP hD hS 0 rfl rfl 6 (by decide) (hts (.fieldLink RX9 44 "ProofBench$Tape" "length" "I") (by decide +kernel)) (fun _ h9 => h9) rfl (by decide +kernel) rfl rfl (Nat.le_of_ble_eq_true rfl) dX9_take_38 (fun H locs hP hD hS => ?_)
  have hP : va_P (dC, dI) vwCl [(h0, .inr (9, [.ref a1, .ref a2, .ref a3, .ref a4, .ref a5, .ref a6, .int 38, .int 0, .int 0, .int 0, .int 0])), (a1, .inl (cA1, 4000, .inl (f_29)))] H := hP
  have hD : va_D A [(h0, .inr (9, [.ref a1, .ref a2, .ref a3, .ref a4, .ref a5, .ref a6, .int 38, .int 0, .int 0, .int 0, .int 0])), (a1, .inl (cA1, 4000, .inl (f_29)))] := hD
  refine lv_iinc (v := 8) (lv' := [(3, .int 8), (0, .ref h0), (1, .long x)]) hx hb dX9_take_41 hl (k := 0) rfl (by decide) (by decide) rfl (fun ls hl => ?_)
  refine lv_goto (tgt := 3) hx hb dX9_take_44 (by decide) ?_
  refine lv_iload_n hx hb dX9_take_3 rfl (lv_at hl 0 rfl) ?_
  refine lv_if_lt (tgt := 47) hx hb dX9_take_4 (by decide) (fun c9 => absurd c9 (by decide)) (fun _ => ?_)
  refine lv_aload_n hx hb dX9_take_7 rfl (lv_at hl 1 rfl) ?_
  refine va_get (D := (dC, dI)) (ci := 9) (v := .int 38) (C := RX9) (T := TX9) (N := 11) hx hb hts (by decide +kernel) hown hK hP 0 rfl rfl 6 (by decide) (hts (.fieldLink RX9 44 "ProofBench$Tape" "length" "I") (by decide +kernel)) (fun _ h9 => h9) rfl dX9_take_8 ?_
  refine lv_sipush (v := 4000) hx hb dX9_take_11 (by decide) ?_
  refine lv_icmp_ge (tgt := 41) hx hb dX9_take_14 (by decide) (fun c9 => absurd c9 (by decide)) (fun _ => ?_)
  refine lv_aload_n hx hb dX9_take_17 rfl (lv_at hl 1 rfl) ?_
  refine va_get (D := (dC, dI)) (ci := 9) (v := .ref a1) (C := RX9) (T := TX9) (N := 11) hx hb hts (by decide +kernel) hown hK hP 0 rfl rfl 0 (by decide) (hts (.fieldLink RX9 9 "ProofBench$Tape" "bytes" "[B") (by decide +kernel)) (fun _ h9 => h9) rfl dX9_take_18 ?_
  refine lv_aload_n hx hb dX9_take_21 rfl (lv_at hl 1 rfl) ?_
  refine va_get (D := (dC, dI)) (ci := 9) (v := .int 38) (C := RX9) (T := TX9) (N := 11) hx hb hts (by decide +kernel) hown hK hP 0 rfl rfl 6 (by decide) (hts (.fieldLink RX9 44 "ProofBench$Tape" "length" "I") (by decide +kernel)) (fun _ h9 => h9) rfl dX9_take_22 ?_
  refine lv_lload_n hx hb dX9_take_25 rfl (lv_at hl 2 rfl) ?_
  refine lv_iload_n hx hb dX9_take_26 rfl (lv_at hl 0 rfl) ?_
  refine lv_lshr hx hb dX9_take_27 rfl ?_
  refine lv_topl (fun y_31 ey_31 => ?_)
  refine lv_l2i hx hb dX9_take_28 rfl ?_
  refine lv_topi (fun r_32 er_32 => ?_)
  refine lv_i2b hx hb dX9_take_29 rfl ?_
  refine lv_topi (fun r_33 er_33 => ?_)
  refine va_bast hx hb hK hP hD hS 1 0 rfl rfl (show vp_in (38) 4000 from by unfold vp_in; decide) dX9_take_30 (fun H locs hP hD hS => ?_)
  obtain ⟨f_34, hP, hD⟩ : ∃ f9 : Nat → Int32, va_P (dC, dI) vwCl [(h0, .inr (9, [.ref a1, .ref a2, .ref a3, .ref a4, .ref a5, .ref a6, .int 38, .int 0, .int 0, .int 0, .int 0])), (a1, .inl (cA1, 4000, .inl (f9)))] H ∧ va_D A [(h0, .inr (9, [.ref a1, .ref a2, .ref a3, .ref a4, .ref a5, .ref a6, .int 38, .int 0, .int 0, .int 0, .int 0])), (a1, .inl (cA1, 4000, .inl (f9)))] := ⟨_, hP, hD⟩
  refine lv_aload_n hx hb dX9_take_31 rfl (lv_at hl 1 rfl) ?_
  refine lv_dup hx hb dX9_take_32 rfl ?_
  refine va_get (D := (dC, dI)) (ci := 9) (v := .int 38) (C := RX9) (T := TX9) (N := 11) hx hb hts (by decide +kernel) hown hK hP 0 rfl rfl 6 (by decide) (hts (.fieldLink RX9 44 "ProofBench$Tape" "length" "I") (by decide +kernel)) (fun _ h9 => h9) rfl dX9_take_33 ?_
  refine lv_iconst (v := 1) hx hb dX9_take_36 (by decide) ?_
  refine lv_iadd hx hb dX9_take_37 ?_
  refine lv_topi (fun z_35 e9 => ?_)
  obtain rfl : z_35 = 39 := by rw [e9]; decide
  refine va_put (D := (dC, dI)) (ci := 9) (v := .int 39) (ty := .int) (C := RX9) (T := TX9) (N := 11) hx hb hts (by decide +kernel) tyX9 tyX9_ok nmX9 hown hK hP hD hS 0 rfl rfl 6 (by decide) (hts (.fieldLink RX9 44 "ProofBench$Tape" "length" "I") (by decide +kernel)) (fun _ h9 => h9) rfl (by decide +kernel) rfl rfl (Nat.le_of_ble_eq_true rfl) dX9_take_38 (fun H locs hP hD hS => ?_)
  have hP : va_P (dC, dI) vwCl [(h0, .inr (9, [.ref a1, .ref a2, .ref a3, .ref a4, .ref a5, .ref a6, .int 39, .int 0, .int 0, .int 0, .int 0])), (a1, .inl (cA1, 4000, .inl (f_34)))] H := hP
  have hD : va_D A [(h0, .inr (9, [.ref a1, .ref a2, .ref a3, .ref a4, .ref a5, .ref a6, .int 39, .int 0, .int 0, .int 0, .int 0])), (a1, .inl (cA1, 4000, .inl (f_34)))] := hD
  refine lv_iinc (v := 0) (lv' := [(3, .int 0), (0, .ref h0), (1, .long x)]) hx hb dX9_take_41 hl (k := 0) rfl (by decide) (by decide) rfl (fun ls hl => ?_)
  refine lv_goto (tgt := 3) hx hb dX9_take_44 (by decide) ?_
  refine lv_iload_n hx hb dX9_take_3 rfl (lv_at hl 0 rfl) ?_
  refine lv_if_lt (tgt := 47) hx hb dX9_take_4 (by decide) (fun c9 => absurd c9 (by decide)) (fun _ => ?_)
  refine lv_aload_n hx hb dX9_take_7 rfl (lv_at hl 1 rfl) ?_
  refine va_get (D := (dC, dI)) (ci := 9) (v := .int 39) (C := RX9) (T := TX9) (N := 11) hx hb hts (by decide +kernel) hown hK hP 0 rfl rfl 6 (by decide) (hts (.fieldLink RX9 44 "ProofBench$Tape" "length" "I") (by decide +kernel)) (fun _ h9 => h9) rfl dX9_take_8 ?_
  refine lv_sipush (v := 4000) hx hb dX9_take_11 (by decide) ?_
  refine lv_icmp_ge (tgt := 41) hx hb dX9_take_14 (by decide) (fun c9 => absurd c9 (by decide)) (fun _ => ?_)
  refine lv_aload_n hx hb dX9_take_17 rfl (lv_at hl 1 rfl) ?_
  refine va_get (D := (dC, dI)) (ci := 9) (v := .ref a1) (C := RX9) (T := TX9) (N := 11) hx hb hts (by decide +kernel) hown hK hP 0 rfl rfl 0 (by decide) (hts (.fieldLink RX9 9 "ProofBench$Tape" "bytes" "[B") (by decide +kernel)) (fun _ h9 => h9) rfl dX9_take_18 ?_
  refine lv_aload_n hx hb dX9_take_21 rfl (lv_at hl 1 rfl) ?_
  refine va_get (D := (dC, dI)) (ci := 9) (v := .int 39) (C := RX9) (T := TX9) (N := 11) hx hb hts (by decide +kernel) hown hK hP 0 rfl rfl 6 (by decide) (hts (.fieldLink RX9 44 "ProofBench$Tape" "length" "I") (by decide +kernel)) (fun _ h9 => h9) rfl dX9_take_22 ?_
  refine lv_lload_n hx hb dX9_take_25 rfl (lv_at hl 2 rfl) ?_
  refine lv_iload_n hx hb dX9_take_26 rfl (lv_at hl 0 rfl) ?_
  refine lv_lshr hx hb dX9_take_27 rfl ?_
  refine lv_topl (fun y_36 ey_36 => ?_)
  refine lv_l2i hx hb dX9_take_28 rfl ?_
  refine lv_topi (fun r_37 er_37 => ?_)
  refine lv_i2b hx hb dX9_take_29 rfl ?_
  refine lv_topi (fun r_38 er_38 => ?_)
  refine va_bast hx hb hK hP hD hS 1 0 rfl rfl (show vp_in (39) 4000 from by unfold vp_in; decide) dX9_take_30 (fun H locs hP hD hS => ?_)
  obtain ⟨f_39, hP, hD⟩ : ∃ f9 : Nat → Int32, va_P (dC, dI) vwCl [(h0, .inr (9, [.ref a1, .ref a2, .ref a3, .ref a4, .ref a5, .ref a6, .int 39, .int 0, .int 0, .int 0, .int 0])), (a1, .inl (cA1, 4000, .inl (f9)))] H ∧ va_D A [(h0, .inr (9, [.ref a1, .ref a2, .ref a3, .ref a4, .ref a5, .ref a6, .int 39, .int 0, .int 0, .int 0, .int 0])), (a1, .inl (cA1, 4000, .inl (f9)))] := ⟨_, hP, hD⟩
  refine lv_aload_n hx hb dX9_take_31 rfl (lv_at hl 1 rfl) ?_
  refine lv_dup hx hb dX9_take_32 rfl ?_
  refine va_get (D := (dC, dI)) (ci := 9) (v := .int 39) (C := RX9) (T := TX9) (N := 11) hx hb hts (by decide +kernel) hown hK hP 0 rfl rfl 6 (by decide) (hts (.fieldLink RX9 44 "ProofBench$Tape" "length" "I") (by decide +kernel)) (fun _ h9 => h9) rfl dX9_take_33 ?_
  refine lv_iconst (v := 1) hx hb dX9_take_36 (by decide) ?_
  refine lv_iadd hx hb dX9_take_37 ?_
  refine lv_topi (fun z_40 e9 => ?_)
  obtain rfl : z_40 = 40 := by rw [e9]; decide
  refine va_put (D := (dC, dI)) (ci := 9) (v := .int 40) (ty := .int) (C := RX9) (T := TX9) (N := 11) hx hb hts (by decide +kernel) tyX9 tyX9_ok nmX9 hown hK hP hD hS 0 rfl rfl 6 (by decide) (hts (.fieldLink RX9 44 "ProofBench$Tape" "length" "I") (by decide +kernel)) (fun _ h9 => h9) rfl (by decide +kernel) rfl rfl (Nat.le_of_ble_eq_true rfl) dX9_take_38 (fun H locs hP hD hS => ?_)
  have hP : va_P (dC, dI) vwCl [(h0, .inr (9, [.ref a1, .ref a2, .ref a3, .ref a4, .ref a5, .ref a6, .int 40, .int 0, .int 0, .int 0, .int 0])), (a1, .inl (cA1, 4000, .inl (f_39)))] H := hP
  have hD : va_D A [(h0, .inr (9, [.ref a1, .ref a2, .ref a3, .ref a4, .ref a5, .ref a6, .int 40, .int 0, .int 0, .int 0, .int 0])), (a1, .inl (cA1, 4000, .inl (f_39)))] := hD
  refine lv_iinc (v := -8) (lv' := [(3, .int (-8)), (0, .ref h0), (1, .long x)]) hx hb dX9_take_41 hl (k := 0) rfl (by decide) (by decide) rfl (fun ls hl => ?_)
  refine lv_goto (tgt := 3) hx hb dX9_take_44 (by decide) ?_
  refine lv_iload_n hx hb dX9_take_3 rfl (lv_at hl 0 rfl) ?_
  refine lv_if_lt (tgt := 47) hx hb dX9_take_4 (by decide) (fun _ => ?_) (fun c9 => absurd c9 (by decide))
  have hP9 := hP.sub (ws' := [(h0, .inr (9, [.ref a1, .ref a2, .ref a3, .ref a4, .ref a5, .ref a6, .int 40, .int 0, .int 0, .int 0, .int 0])), (a1, .inl (cA1, 4000, .inl (f_39)))]) [0, 1] rfl
  have hD9 := hD.sub (ws' := [(h0, .inr (9, [.ref a1, .ref a2, .ref a3, .ref a4, .ref a5, .ref a6, .int 40, .int 0, .int 0, .int 0, .int 0])), (a1, .inl (cA1, 4000, .inl (f_39)))]) [0, 1] (by decide) rfl
  have hK9 := hK.sub (tys' := [(cA1, .byte)]) [0] rfl
  refine W.widen (k := 0) (n := 0) (by omega) (by omega) ?_
  exact W.vret hx hb hr (fun t ht hW => ⟨⟨(), rfl, trivial, f_39, by rw [ht]; exact hP9, va_K.moved hW.alike hK9, hD9⟩, hS.F ht⟩) hS.2.2 dX9_take_47
def wc_X11_feed : List Cond := .code yX11_feed cX11_feed 11 (some .int) :: ([Cond.fieldLink RX11 10 "ProofBench" "tape" "LProofBench$Tape;", Cond.fieldLink RX11 74 "ProofBench$Tape" "length" "I"] ++ wsX110 ++ wsX90 ++ wsV RX11 77 RX9 yX9_take wc_X9_take)
set_option maxRecDepth 20000 in
theorem gc_X11_feed__X9_take : GoodIn wc_X11_feed (wsV RX11 77 RX9 yX9_take wc_X9_take) := goodIn_of _ (by decide +kernel)
set_option maxHeartbeats 1000000 in
set_option maxRecDepth 100000 in
/-- feed on a fresh object: 40 -/
theorem c_feed (l : Launch) (dC : Nat → ClassId) (dI : Nat → Nat → Nat) (sz : Nat) (h0 p0 p1 p2 p3 p4 p5 p6 p7 a1 a2 a3 a4 a5 a6 : Nat) (cA1 : ClassId) (g1 : Nat → Int32) (xa xb xc xd xe : Int64) : Met l yX11_feed wc_X11_feed ({ frames := 1, cells := 0, slots := 0, locals := 23 }) (va_Pc [.ref h0, .long xa, .long xb, .long xc, .long xd, .long xe] (fun U => U.heap.size = sz ∧ va_P (dC, dI) vwCl [(h0, .inr (11, [.ref p0, .ref p1, .ref p2, .ref p3, .ref p4, .ref p5, .ref p6, .ref p7, .int (-1)])), (p0, .inr (9, [.ref a1, .ref a2, .ref a3, .ref a4, .ref a5, .ref a6, .int 0, .int 0, .int 0, .int 0, .int 0])), (a1, .inl (cA1, 4000, .inl (g1)))] U.heap ∧ va_K (dC, dI) vwCl [(cA1, .byte)] U ∧ va_D (fun _ => True) [(h0, .inr (11, [.ref p0, .ref p1, .ref p2, .ref p3, .ref p4, .ref p5, .ref p6, .ref p7, .int (-1)])), (p0, .inr (9, [.ref a1, .ref a2, .ref a3, .ref a4, .ref a5, .ref a6, .int 0, .int 0, .int 0, .int 0, .int 0])), (a1, .inl (cA1, 4000, .inl (g1)))])) (va_Qi (fun (r : Int32) (_ : Unit) => r = 40) (fun _ t => va_P (dC, dI) vwCl [] t.heap ∧ va_K (dC, dI) vwCl [] t ∧ va_D (va_A [(h0, .inr (11, [.ref p0, .ref p1, .ref p2, .ref p3, .ref p4, .ref p5, .ref p6, .ref p7, .int (-1)])), (p0, .inr (9, [.ref a1, .ref a2, .ref a3, .ref a4, .ref a5, .ref a6, .int 0, .int 0, .int 0, .int 0, .int 0])), (a1, .inl (cA1, 4000, .inl (g1)))] sz) []) (va_A [(h0, .inr (11, [.ref p0, .ref p1, .ref p2, .ref p3, .ref p4, .ref p5, .ref p6, .ref p7, .int (-1)])), (p0, .inr (9, [.ref a1, .ref a2, .ref a3, .ref a4, .ref a5, .ref a6, .int 0, .int 0, .int 0, .int 0, .int 0])), (a1, .inl (cA1, 4000, .inl (g1)))] sz)) (0) (0) (va_A [(h0, .inr (11, [.ref p0, .ref p1, .ref p2, .ref p3, .ref p4, .ref p5, .ref p6, .ref p7, .int (-1)])), (p0, .inr (9, [.ref a1, .ref a2, .ref a3, .ref a4, .ref a5, .ref a6, .int 0, .int 0, .int 0, .int 0, .int 0])), (a1, .inl (cA1, 4000, .inl (g1)))] sz) := by
  refine Met.ofW (cc := cX11_feed) (maxL := 11) (ret := (some .int)) (by decide) rfl ?_
  intro p e s m args below meth c s₁ B hml hv
  obtain ⟨rfl, hsz, hP, hK, hD0⟩ := hv
  have hx := B.exec
  have hb := B.bytes
  have hr := B.returns
  have hts := atoms_spec (ws := wc_X11_feed) B.pre
  have hown : s.vm.findClass RX11 = some m.cls := findClass_of_methodNamed B.named
  have hlocks := B.notSynchronized
  subst hsz
  have hD := hD0.self (sz := s.heap.size)
  generalize hAe : va_A [(h0, .inr (11, [.ref p0, .ref p1, .ref p2, .ref p3, .ref p4, .ref p5, .ref p6, .ref p7, .int (-1)])), (p0, .inr (9, [.ref a1, .ref a2, .ref a3, .ref a4, .ref a5, .ref a6, .int 0, .int 0, .int 0, .int 0, .int 0])), (a1, .inl (cA1, 4000, .inl (g1)))] s.heap.size = A at hD ⊢
  have hA : ∀ q : Nat, s.heap.size ≤ q → A q := fun q h => by rw [← hAe]; exact Or.inr h
  have hS : va_S A s.heap s.heap [] := va_S.rf
  have hl := lv_entry ([.ref h0, .long xa, .long xb, .long xc, .long xd, .long xe]) (n := 11) (Nat.le_of_ble_eq_true rfl)
  rw [lg_entry_eq]
  generalize (lg_sl ([.ref h0, .long xa, .long xb, .long xc, .long xd, .long xe]) ++ List.replicate (11 - (lg_sl ([.ref h0, .long xa, .long xb, .long xc, .long xd, .long xe])).length) Slot.unset).toArray = ls at hl ⊢
  have hl : lv_has ls 11 [(0, .ref h0), (1, .long xa), (3, .long xb), (5, .long xc), (7, .long xd), (9, .long xe)] := hl
  refine lv_aload_n hx hb dX11_feed_0 rfl (lv_at hl 0 rfl) ?_
  refine va_get (D := (dC, dI)) (ci := 11) (v := .ref p0) (C := RX11) (T := TX11) (N := 9) hx hb hts (by decide +kernel) hown hK hP 0 rfl rfl 0 (by decide) (hts (.fieldLink RX11 10 "ProofBench" "tape" "LProofBench$Tape;") (by decide +kernel)) (fun _ h9 => h9) rfl dX11_feed_1 ?_
  refine va_get (D := (dC, dI)) (ci := 9) (v := .int 0) (C := RX9) (T := TX9) (N := 11) hx hb hts (by decide +kernel) hown hK hP 1 rfl rfl 6 (by decide) (hts (.fieldLink RX11 74 "ProofBench$Tape" "length" "I") (by decide +kernel)) (fun _ h9 => h9) rfl dX11_feed_4 ?_
  refine lv_bipush (v := 40) hx hb dX11_feed_7 (by decide) ?_
  refine lv_iadd hx hb dX11_feed_9 ?_
  refine lv_topi (fun z_1 e9 => ?_)
  obtain rfl : z_1 = 40 := by rw [e9]; decide
  refine lv_sipush (v := 4000) hx hb dX11_feed_10 (by decide) ?_
  refine lv_icmp_le (tgt := 18) hx hb dX11_feed_13 (by decide) (fun _ => ?_) (fun c9 => absurd c9 (by decide))
  refine lv_aload_n hx hb dX11_feed_18 rfl (lv_at hl 0 rfl) ?_
  refine va_get (D := (dC, dI)) (ci := 11) (v := .ref p0) (C := RX11) (T := TX11) (N := 9) hx hb hts (by decide +kernel) hown hK hP 0 rfl rfl 0 (by decide) (hts (.fieldLink RX11 10 "ProofBench" "tape" "LProofBench$Tape;") (by decide +kernel)) (fun _ h9 => h9) rfl dX11_feed_19 ?_
  refine lv_lload_n hx hb dX11_feed_22 rfl (lv_at hl 1 rfl) ?_
  have hPc := hP.sub (ws' := [(p0, .inr (9, [.ref a1, .ref a2, .ref a3, .ref a4, .ref a5, .ref a6, .int 0, .int 0, .int 0, .int 0, .int 0])), (a1, .inl (cA1, 4000, .inl (g1)))]) [1, 2] rfl
  have hDc := hD.sub (ws' := [(p0, .inr (9, [.ref a1, .ref a2, .ref a3, .ref a4, .ref a5, .ref a6, .int 0, .int 0, .int 0, .int 0, .int 0])), (a1, .inl (cA1, 4000, .inl (g1)))]) [1, 2] (by decide) rfl
  have hKc := hK.sub (tys' := [(cA1, .byte)]) [0] rfl
  have hFc := va_free (wc := [(p0, .inr (9, [.ref a1, .ref a2, .ref a3, .ref a4, .ref a5, .ref a6, .int 0, .int 0, .int 0, .int 0, .int 0])), (a1, .inl (cA1, 4000, .inl (g1)))]) hD hS hA [1, 2] rfl
  refine va_callv (va_runV (As := [.long xa]) (rest := []) ⟨hx, hb, hml, hown, hts⟩ (c_take_0 l dC dI s.heap.size p0 a1 a2 a3 a4 a5 a6 cA1 g1 xa) (cwV 1 hts gc_X11_feed__X9_take rfl rfl rfl (by decide +kernel) ⟨Nat.le_of_ble_eq_true rfl, Nat.le_of_ble_eq_true rfl⟩) ⟨fun a U g mk q => by obtain ⟨q0, q1, qP, qK, qD⟩ := q; exact ⟨q0, q1, qP, va_K.moved (u := U) (U := U.calling g mk a) (Vm.Alike.refl U.vm) qK, qD⟩, va_recv hKc hPc (ci := 9) (q0 := 0) rfl rfl, fun U hU hW => ⟨rfl, by rw [hU], by rw [hU]; exact hPc, va_K.moved hW.alike hKc, hDc.weaken (fun _ _ _ _ => trivial)⟩⟩ rfl rfl hl.1 rfl (lv_room (Nat.le_of_ble_eq_true rfl)) dX11_feed_23 ⟨(show 0 + 0 ≤ 0 by omega), (show 0 + 0 ≤ 0 by omega)⟩) hS (fun q _ h => hFc q h) hFc (fun u t H1 locs ht hvm hw hB hz1 hk1 hS => ?_)
  obtain ⟨k0, hP1, hK1, hD1⟩ := hB
  rw [ht] at hP1
  have hK1 := va_K.moved hvm.symm hK1
  obtain ⟨hP, hD⟩ := va_join (wr := [(h0, .inr (11, [.ref p0, .ref p1, .ref p2, .ref p3, .ref p4, .ref p5, .ref p6, .ref p7, .int (-1)]))]) (w1 := [(p0, .inr (9, [.ref a1, .ref a2, .ref a3, .ref a4, .ref a5, .ref a6, .int 8, .int 0, .int 0, .int 0, .int 0])), (a1, .inl (cA1, 4000, .inl (k0)))]) hP hD [1, 2] [0] rfl rfl (by decide) (by decide) hk1 hFc hP1 hD1
  have hK := (hK.sub (tys' := [(cA1, .byte)]) [0] rfl).app hK1
  generalize H1 = H at hP hS ⊢
  have hP : va_P (dC, dI) vwCl [(h0, .inr (11, [.ref p0, .ref p1, .ref p2, .ref p3, .ref p4, .ref p5, .ref p6, .ref p7, .int (-1)])), (p0, .inr (9, [.ref a1, .ref a2, .ref a3, .ref a4, .ref a5, .ref a6, .int 8, .int 0, .int 0, .int 0, .int 0])), (a1, .inl (cA1, 4000, .inl (k0)))] H := hP
  have hD : va_D A [(h0, .inr (11, [.ref p0, .ref p1, .ref p2, .ref p3, .ref p4, .ref p5, .ref p6, .ref p7, .int (-1)])), (p0, .inr (9, [.ref a1, .ref a2, .ref a3, .ref a4, .ref a5, .ref a6, .int 8, .int 0, .int 0, .int 0, .int 0])), (a1, .inl (cA1, 4000, .inl (k0)))] := hD
  have hK : va_K (dC, dI) vwCl [(cA1, .byte), (cA1, .byte)] s := hK
  refine W.widen (k := 0) (n := 0) (by omega) (by omega) ?_
  refine lv_aload_n hx hb dX11_feed_26 rfl (lv_at hl 0 rfl) ?_
  refine va_get (D := (dC, dI)) (ci := 11) (v := .ref p0) (C := RX11) (T := TX11) (N := 9) hx hb hts (by decide +kernel) hown hK hP 0 rfl rfl 0 (by decide) (hts (.fieldLink RX11 10 "ProofBench" "tape" "LProofBench$Tape;") (by decide +kernel)) (fun _ h9 => h9) rfl dX11_feed_27 ?_
  refine lv_lload_n hx hb dX11_feed_30 rfl (lv_at hl 2 rfl) ?_
  have hPc := hP.sub (ws' := [(p0, .inr (9, [.ref a1, .ref a2, .ref a3, .ref a4, .ref a5, .ref a6, .int 8, .int 0, .int 0, .int 0, .int 0])), (a1, .inl (cA1, 4000, .inl (k0)))]) [1, 2] rfl
  have hDc := hD.sub (ws' := [(p0, .inr (9, [.ref a1, .ref a2, .ref a3, .ref a4, .ref a5, .ref a6, .int 8, .int 0, .int 0, .int 0, .int 0])), (a1, .inl (cA1, 4000, .inl (k0)))]) [1, 2] (by decide) rfl
  have hKc := hK.sub (tys' := [(cA1, .byte)]) [0] rfl
  have hFc := va_free (wc := [(p0, .inr (9, [.ref a1, .ref a2, .ref a3, .ref a4, .ref a5, .ref a6, .int 8, .int 0, .int 0, .int 0, .int 0])), (a1, .inl (cA1, 4000, .inl (k0)))]) hD hS hA [1, 2] rfl
  refine va_callv (va_runV (As := [.long xb]) (rest := []) ⟨hx, hb, hml, hown, hts⟩ (c_take_8 l dC dI H.size p0 a1 a2 a3 a4 a5 a6 cA1 k0 xb) (cwV 1 hts gc_X11_feed__X9_take rfl rfl rfl (by decide +kernel) ⟨Nat.le_of_ble_eq_true rfl, Nat.le_of_ble_eq_true rfl⟩) ⟨fun a U g mk q => by obtain ⟨q0, q1, qP, qK, qD⟩ := q; exact ⟨q0, q1, qP, va_K.moved (u := U) (U := U.calling g mk a) (Vm.Alike.refl U.vm) qK, qD⟩, va_recv hKc hPc (ci := 9) (q0 := 0) rfl rfl, fun U hU hW => ⟨rfl, by rw [hU], by rw [hU]; exact hPc, va_K.moved hW.alike hKc, hDc.weaken (fun _ _ _ _ => trivial)⟩⟩ rfl rfl hl.1 rfl (lv_room (Nat.le_of_ble_eq_true rfl)) dX11_feed_31 ⟨(show 0 + 0 ≤ 0 by omega), (show 0 + 0 ≤ 0 by omega)⟩) hS (fun q _ h => hFc q h) hFc (fun u t H1 locs ht hvm hw hB hz1 hk1 hS => ?_)
  obtain ⟨k1, hP1, hK1, hD1⟩ := hB
  rw [ht] at hP1
  have hK1 := va_K.moved hvm.symm hK1
  obtain ⟨hP, hD⟩ := va_join (wr := [(h0, .inr (11, [.ref p0, .ref p1, .ref p2, .ref p3, .ref p4, .ref p5, .ref p6, .ref p7, .int (-1)]))]) (w1 := [(p0, .inr (9, [.ref a1, .ref a2, .ref a3, .ref a4, .ref a5, .ref a6, .int 16, .int 0, .int 0, .int 0, .int 0])), (a1, .inl (cA1, 4000, .inl (k1)))]) hP hD [1, 2] [0] rfl rfl (by decide) (by decide) hk1 hFc hP1 hD1
  have hK := (hK.sub (tys' := [(cA1, .byte), (cA1, .byte)]) [0, 1] rfl).app hK1
  generalize H1 = H at hP hS ⊢
  have hP : va_P (dC, dI) vwCl [(h0, .inr (11, [.ref p0, .ref p1, .ref p2, .ref p3, .ref p4, .ref p5, .ref p6, .ref p7, .int (-1)])), (p0, .inr (9, [.ref a1, .ref a2, .ref a3, .ref a4, .ref a5, .ref a6, .int 16, .int 0, .int 0, .int 0, .int 0])), (a1, .inl (cA1, 4000, .inl (k1)))] H := hP
  have hD : va_D A [(h0, .inr (11, [.ref p0, .ref p1, .ref p2, .ref p3, .ref p4, .ref p5, .ref p6, .ref p7, .int (-1)])), (p0, .inr (9, [.ref a1, .ref a2, .ref a3, .ref a4, .ref a5, .ref a6, .int 16, .int 0, .int 0, .int 0, .int 0])), (a1, .inl (cA1, 4000, .inl (k1)))] := hD
  have hK : va_K (dC, dI) vwCl [(cA1, .byte), (cA1, .byte), (cA1, .byte)] s := hK
  refine W.widen (k := 0) (n := 0) (by omega) (by omega) ?_
  refine lv_aload_n hx hb dX11_feed_34 rfl (lv_at hl 0 rfl) ?_
  refine va_get (D := (dC, dI)) (ci := 11) (v := .ref p0) (C := RX11) (T := TX11) (N := 9) hx hb hts (by decide +kernel) hown hK hP 0 rfl rfl 0 (by decide) (hts (.fieldLink RX11 10 "ProofBench" "tape" "LProofBench$Tape;") (by decide +kernel)) (fun _ h9 => h9) rfl dX11_feed_35 ?_
  refine lv_lload hx hb dX11_feed_38 (lv_at hl 3 rfl) ?_
  have hPc := hP.sub (ws' := [(p0, .inr (9, [.ref a1, .ref a2, .ref a3, .ref a4, .ref a5, .ref a6, .int 16, .int 0, .int 0, .int 0, .int 0])), (a1, .inl (cA1, 4000, .inl (k1)))]) [1, 2] rfl
  have hDc := hD.sub (ws' := [(p0, .inr (9, [.ref a1, .ref a2, .ref a3, .ref a4, .ref a5, .ref a6, .int 16, .int 0, .int 0, .int 0, .int 0])), (a1, .inl (cA1, 4000, .inl (k1)))]) [1, 2] (by decide) rfl
  have hKc := hK.sub (tys' := [(cA1, .byte)]) [0] rfl
  have hFc := va_free (wc := [(p0, .inr (9, [.ref a1, .ref a2, .ref a3, .ref a4, .ref a5, .ref a6, .int 16, .int 0, .int 0, .int 0, .int 0])), (a1, .inl (cA1, 4000, .inl (k1)))]) hD hS hA [1, 2] rfl
  refine va_callv (va_runV (As := [.long xc]) (rest := []) ⟨hx, hb, hml, hown, hts⟩ (c_take_16 l dC dI H.size p0 a1 a2 a3 a4 a5 a6 cA1 k1 xc) (cwV 1 hts gc_X11_feed__X9_take rfl rfl rfl (by decide +kernel) ⟨Nat.le_of_ble_eq_true rfl, Nat.le_of_ble_eq_true rfl⟩) ⟨fun a U g mk q => by obtain ⟨q0, q1, qP, qK, qD⟩ := q; exact ⟨q0, q1, qP, va_K.moved (u := U) (U := U.calling g mk a) (Vm.Alike.refl U.vm) qK, qD⟩, va_recv hKc hPc (ci := 9) (q0 := 0) rfl rfl, fun U hU hW => ⟨rfl, by rw [hU], by rw [hU]; exact hPc, va_K.moved hW.alike hKc, hDc.weaken (fun _ _ _ _ => trivial)⟩⟩ rfl rfl hl.1 rfl (lv_room (Nat.le_of_ble_eq_true rfl)) dX11_feed_40 ⟨(show 0 + 0 ≤ 0 by omega), (show 0 + 0 ≤ 0 by omega)⟩) hS (fun q _ h => hFc q h) hFc (fun u t H1 locs ht hvm hw hB hz1 hk1 hS => ?_)
  obtain ⟨k2, hP1, hK1, hD1⟩ := hB
  rw [ht] at hP1
  have hK1 := va_K.moved hvm.symm hK1
  obtain ⟨hP, hD⟩ := va_join (wr := [(h0, .inr (11, [.ref p0, .ref p1, .ref p2, .ref p3, .ref p4, .ref p5, .ref p6, .ref p7, .int (-1)]))]) (w1 := [(p0, .inr (9, [.ref a1, .ref a2, .ref a3, .ref a4, .ref a5, .ref a6, .int 24, .int 0, .int 0, .int 0, .int 0])), (a1, .inl (cA1, 4000, .inl (k2)))]) hP hD [1, 2] [0] rfl rfl (by decide) (by decide) hk1 hFc hP1 hD1
  have hK := (hK.sub (tys' := [(cA1, .byte), (cA1, .byte), (cA1, .byte)]) [0, 1, 2] rfl).app hK1
  generalize H1 = H at hP hS ⊢
  have hP : va_P (dC, dI) vwCl [(h0, .inr (11, [.ref p0, .ref p1, .ref p2, .ref p3, .ref p4, .ref p5, .ref p6, .ref p7, .int (-1)])), (p0, .inr (9, [.ref a1, .ref a2, .ref a3, .ref a4, .ref a5, .ref a6, .int 24, .int 0, .int 0, .int 0, .int 0])), (a1, .inl (cA1, 4000, .inl (k2)))] H := hP
  have hD : va_D A [(h0, .inr (11, [.ref p0, .ref p1, .ref p2, .ref p3, .ref p4, .ref p5, .ref p6, .ref p7, .int (-1)])), (p0, .inr (9, [.ref a1, .ref a2, .ref a3, .ref a4, .ref a5, .ref a6, .int 24, .int 0, .int 0, .int 0, .int 0])), (a1, .inl (cA1, 4000, .inl (k2)))] := hD
  have hK : va_K (dC, dI) vwCl [(cA1, .byte), (cA1, .byte), (cA1, .byte), (cA1, .byte)] s := hK
  refine W.widen (k := 0) (n := 0) (by omega) (by omega) ?_
  refine lv_aload_n hx hb dX11_feed_43 rfl (lv_at hl 0 rfl) ?_
  refine va_get (D := (dC, dI)) (ci := 11) (v := .ref p0) (C := RX11) (T := TX11) (N := 9) hx hb hts (by decide +kernel) hown hK hP 0 rfl rfl 0 (by decide) (hts (.fieldLink RX11 10 "ProofBench" "tape" "LProofBench$Tape;") (by decide +kernel)) (fun _ h9 => h9) rfl dX11_feed_44 ?_
  refine lv_lload hx hb dX11_feed_47 (lv_at hl 4 rfl) ?_
  have hPc := hP.sub (ws' := [(p0, .inr (9, [.ref a1, .ref a2, .ref a3, .ref a4, .ref a5, .ref a6, .int 24, .int 0, .int 0, .int 0, .int 0])), (a1, .inl (cA1, 4000, .inl (k2)))]) [1, 2] rfl
  have hDc := hD.sub (ws' := [(p0, .inr (9, [.ref a1, .ref a2, .ref a3, .ref a4, .ref a5, .ref a6, .int 24, .int 0, .int 0, .int 0, .int 0])), (a1, .inl (cA1, 4000, .inl (k2)))]) [1, 2] (by decide) rfl
  have hKc := hK.sub (tys' := [(cA1, .byte)]) [0] rfl
  have hFc := va_free (wc := [(p0, .inr (9, [.ref a1, .ref a2, .ref a3, .ref a4, .ref a5, .ref a6, .int 24, .int 0, .int 0, .int 0, .int 0])), (a1, .inl (cA1, 4000, .inl (k2)))]) hD hS hA [1, 2] rfl
  refine va_callv (va_runV (As := [.long xd]) (rest := []) ⟨hx, hb, hml, hown, hts⟩ (c_take_24 l dC dI H.size p0 a1 a2 a3 a4 a5 a6 cA1 k2 xd) (cwV 1 hts gc_X11_feed__X9_take rfl rfl rfl (by decide +kernel) ⟨Nat.le_of_ble_eq_true rfl, Nat.le_of_ble_eq_true rfl⟩) ⟨fun a U g mk q => by obtain ⟨q0, q1, qP, qK, qD⟩ := q; exact ⟨q0, q1, qP, va_K.moved (u := U) (U := U.calling g mk a) (Vm.Alike.refl U.vm) qK, qD⟩, va_recv hKc hPc (ci := 9) (q0 := 0) rfl rfl, fun U hU hW => ⟨rfl, by rw [hU], by rw [hU]; exact hPc, va_K.moved hW.alike hKc, hDc.weaken (fun _ _ _ _ => trivial)⟩⟩ rfl rfl hl.1 rfl (lv_room (Nat.le_of_ble_eq_true rfl)) dX11_feed_49 ⟨(show 0 + 0 ≤ 0 by omega), (show 0 + 0 ≤ 0 by omega)⟩) hS (fun q _ h => hFc q h) hFc (fun u t H1 locs ht hvm hw hB hz1 hk1 hS => ?_)
  obtain ⟨k3, hP1, hK1, hD1⟩ := hB
  rw [ht] at hP1
  have hK1 := va_K.moved hvm.symm hK1
  obtain ⟨hP, hD⟩ := va_join (wr := [(h0, .inr (11, [.ref p0, .ref p1, .ref p2, .ref p3, .ref p4, .ref p5, .ref p6, .ref p7, .int (-1)]))]) (w1 := [(p0, .inr (9, [.ref a1, .ref a2, .ref a3, .ref a4, .ref a5, .ref a6, .int 32, .int 0, .int 0, .int 0, .int 0])), (a1, .inl (cA1, 4000, .inl (k3)))]) hP hD [1, 2] [0] rfl rfl (by decide) (by decide) hk1 hFc hP1 hD1
  have hK := (hK.sub (tys' := [(cA1, .byte), (cA1, .byte), (cA1, .byte), (cA1, .byte)]) [0, 1, 2, 3] rfl).app hK1
  generalize H1 = H at hP hS ⊢
  have hP : va_P (dC, dI) vwCl [(h0, .inr (11, [.ref p0, .ref p1, .ref p2, .ref p3, .ref p4, .ref p5, .ref p6, .ref p7, .int (-1)])), (p0, .inr (9, [.ref a1, .ref a2, .ref a3, .ref a4, .ref a5, .ref a6, .int 32, .int 0, .int 0, .int 0, .int 0])), (a1, .inl (cA1, 4000, .inl (k3)))] H := hP
  have hD : va_D A [(h0, .inr (11, [.ref p0, .ref p1, .ref p2, .ref p3, .ref p4, .ref p5, .ref p6, .ref p7, .int (-1)])), (p0, .inr (9, [.ref a1, .ref a2, .ref a3, .ref a4, .ref a5, .ref a6, .int 32, .int 0, .int 0, .int 0, .int 0])), (a1, .inl (cA1, 4000, .inl (k3)))] := hD
  have hK : va_K (dC, dI) vwCl [(cA1, .byte), (cA1, .byte), (cA1, .byte), (cA1, .byte), (cA1, .byte)] s := hK
  refine W.widen (k := 0) (n := 0) (by omega) (by omega) ?_
  refine lv_aload_n hx hb dX11_feed_52 rfl (lv_at hl 0 rfl) ?_
  refine va_get (D := (dC, dI)) (ci := 11) (v := .ref p0) (C := RX11) (T := TX11) (N := 9) hx hb hts (by decide +kernel) hown hK hP 0 rfl rfl 0 (by decide) (hts (.fieldLink RX11 10 "ProofBench" "tape" "LProofBench$Tape;") (by decide +kernel)) (fun _ h9 => h9) rfl dX11_feed_53 ?_
  refine lv_lload hx hb dX11_feed_56 (lv_at hl 5 rfl) ?_
  have hPc := hP.sub (ws' := [(p0, .inr (9, [.ref a1, .ref a2, .ref a3, .ref a4, .ref a5, .ref a6, .int 32, .int 0, .int 0, .int 0, .int 0])), (a1, .inl (cA1, 4000, .inl (k3)))]) [1, 2] rfl
  have hDc := hD.sub (ws' := [(p0, .inr (9, [.ref a1, .ref a2, .ref a3, .ref a4, .ref a5, .ref a6, .int 32, .int 0, .int 0, .int 0, .int 0])), (a1, .inl (cA1, 4000, .inl (k3)))]) [1, 2] (by decide) rfl
  have hKc := hK.sub (tys' := [(cA1, .byte)]) [0] rfl
  have hFc := va_free (wc := [(p0, .inr (9, [.ref a1, .ref a2, .ref a3, .ref a4, .ref a5, .ref a6, .int 32, .int 0, .int 0, .int 0, .int 0])), (a1, .inl (cA1, 4000, .inl (k3)))]) hD hS hA [1, 2] rfl
  refine va_callv (va_runV (As := [.long xe]) (rest := []) ⟨hx, hb, hml, hown, hts⟩ (c_take_32 l dC dI H.size p0 a1 a2 a3 a4 a5 a6 cA1 k3 xe) (cwV 1 hts gc_X11_feed__X9_take rfl rfl rfl (by decide +kernel) ⟨Nat.le_of_ble_eq_true rfl, Nat.le_of_ble_eq_true rfl⟩) ⟨fun a U g mk q => by obtain ⟨q0, q1, qP, qK, qD⟩ := q; exact ⟨q0, q1, qP, va_K.moved (u := U) (U := U.calling g mk a) (Vm.Alike.refl U.vm) qK, qD⟩, va_recv hKc hPc (ci := 9) (q0 := 0) rfl rfl, fun U hU hW => ⟨rfl, by rw [hU], by rw [hU]; exact hPc, va_K.moved hW.alike hKc, hDc.weaken (fun _ _ _ _ => trivial)⟩⟩ rfl rfl hl.1 rfl (lv_room (Nat.le_of_ble_eq_true rfl)) dX11_feed_58 ⟨(show 0 + 0 ≤ 0 by omega), (show 0 + 0 ≤ 0 by omega)⟩) hS (fun q _ h => hFc q h) hFc (fun u t H1 locs ht hvm hw hB hz1 hk1 hS => ?_)
  obtain ⟨k4, hP1, hK1, hD1⟩ := hB
  rw [ht] at hP1
  have hK1 := va_K.moved hvm.symm hK1
  obtain ⟨hP, hD⟩ := va_join (wr := [(h0, .inr (11, [.ref p0, .ref p1, .ref p2, .ref p3, .ref p4, .ref p5, .ref p6, .ref p7, .int (-1)]))]) (w1 := [(p0, .inr (9, [.ref a1, .ref a2, .ref a3, .ref a4, .ref a5, .ref a6, .int 40, .int 0, .int 0, .int 0, .int 0])), (a1, .inl (cA1, 4000, .inl (k4)))]) hP hD [1, 2] [0] rfl rfl (by decide) (by decide) hk1 hFc hP1 hD1
  have hK := (hK.sub (tys' := [(cA1, .byte), (cA1, .byte), (cA1, .byte), (cA1, .byte), (cA1, .byte)]) [0, 1, 2, 3, 4] rfl).app hK1
  generalize H1 = H at hP hS ⊢
  have hP : va_P (dC, dI) vwCl [(h0, .inr (11, [.ref p0, .ref p1, .ref p2, .ref p3, .ref p4, .ref p5, .ref p6, .ref p7, .int (-1)])), (p0, .inr (9, [.ref a1, .ref a2, .ref a3, .ref a4, .ref a5, .ref a6, .int 40, .int 0, .int 0, .int 0, .int 0])), (a1, .inl (cA1, 4000, .inl (k4)))] H := hP
  have hD : va_D A [(h0, .inr (11, [.ref p0, .ref p1, .ref p2, .ref p3, .ref p4, .ref p5, .ref p6, .ref p7, .int (-1)])), (p0, .inr (9, [.ref a1, .ref a2, .ref a3, .ref a4, .ref a5, .ref a6, .int 40, .int 0, .int 0, .int 0, .int 0])), (a1, .inl (cA1, 4000, .inl (k4)))] := hD
  have hK : va_K (dC, dI) vwCl [(cA1, .byte), (cA1, .byte), (cA1, .byte), (cA1, .byte), (cA1, .byte), (cA1, .byte)] s := hK
  refine W.widen (k := 0) (n := 0) (by omega) (by omega) ?_
  refine lv_aload_n hx hb dX11_feed_61 rfl (lv_at hl 0 rfl) ?_
  refine va_get (D := (dC, dI)) (ci := 11) (v := .ref p0) (C := RX11) (T := TX11) (N := 9) hx hb hts (by decide +kernel) hown hK hP 0 rfl rfl 0 (by decide) (hts (.fieldLink RX11 10 "ProofBench" "tape" "LProofBench$Tape;") (by decide +kernel)) (fun _ h9 => h9) rfl dX11_feed_62 ?_
  refine va_get (D := (dC, dI)) (ci := 9) (v := .int 40) (C := RX9) (T := TX9) (N := 11) hx hb hts (by decide +kernel) hown hK hP 1 rfl rfl 6 (by decide) (hts (.fieldLink RX11 74 "ProofBench$Tape" "length" "I") (by decide +kernel)) (fun _ h9 => h9) rfl dX11_feed_65 ?_
  have hP9 := hP.sub (ws' := []) [] rfl
  have hD9 := hD.sub (ws' := []) [] (by decide) rfl
  have hK9 := hK.sub (tys' := []) [] rfl
  refine W.widen (k := 0) (n := 0) (by omega) (by omega) ?_
  exact W.iret (v := 40) hx hb hr (fun t ht hW => ⟨⟨40, (), rfl, rfl, by rw [ht]; exact hP9, va_K.moved hW.alike hK9, hD9⟩, hS.F ht⟩) hS.2.2 dX11_feed_68
def wc_X11_end : List Cond := .code yX11_end cX11_end 2 (some .int) :: ([Cond.fieldLink RX11 10 "ProofBench" "tape" "LProofBench$Tape;", Cond.fieldLink RX11 74 "ProofBench$Tape" "length" "I"] ++ wsX110 ++ wsX90)
set_option maxHeartbeats 1000000 in
set_option maxRecDepth 100000 in
/-- end(n) on a fresh object -/
theorem c_end (l : Launch) (dC : Nat → ClassId) (dI : Nat → Nat → Nat) (sz : Nat) (h0 p0 p1 p2 p3 p4 p5 p6 p7 : Nat) (a1 a2 a3 a4 a5 a6 : Nat) (n : Int32) : Met l yX11_end wc_X11_end ({ frames := 0, cells := 0, slots := 0, locals := 0 }) (va_Pc [.ref h0, .int n] (fun U => U.heap.size = sz ∧ va_P (dC, dI) vwCl [(h0, .inr (11, [.ref p0, .ref p1, .ref p2, .ref p3, .ref p4, .ref p5, .ref p6, .ref p7, .int (-1)])), (p0, .inr (9, [.ref a1, .ref a2, .ref a3, .ref a4, .ref a5, .ref a6, .int 0, .int 0, .int 0, .int 0, .int 0]))] U.heap ∧ va_K (dC, dI) vwCl [] U ∧ va_D (fun _ => True) [(h0, .inr (11, [.ref p0, .ref p1, .ref p2, .ref p3, .ref p4, .ref p5, .ref p6, .ref p7, .int (-1)])), (p0, .inr (9, [.ref a1, .ref a2, .ref a3, .ref a4, .ref a5, .ref a6, .int 0, .int 0, .int 0, .int 0, .int 0]))])) (va_Qi (fun (r : Int32) (_ : Unit) => r = if n = 0 then 0 else -1) (fun _ t => va_P (dC, dI) vwCl [] t.heap ∧ va_K (dC, dI) vwCl [] t ∧ va_D (va_A [(h0, .inr (11, [.ref p0, .ref p1, .ref p2, .ref p3, .ref p4, .ref p5, .ref p6, .ref p7, .int (-1)])), (p0, .inr (9, [.ref a1, .ref a2, .ref a3, .ref a4, .ref a5, .ref a6, .int 0, .int 0, .int 0, .int 0, .int 0]))] sz) []) (va_A [(h0, .inr (11, [.ref p0, .ref p1, .ref p2, .ref p3, .ref p4, .ref p5, .ref p6, .ref p7, .int (-1)])), (p0, .inr (9, [.ref a1, .ref a2, .ref a3, .ref a4, .ref a5, .ref a6, .int 0, .int 0, .int 0, .int 0, .int 0]))] sz)) (0) (0) (va_A [(h0, .inr (11, [.ref p0, .ref p1, .ref p2, .ref p3, .ref p4, .ref p5, .ref p6, .ref p7, .int (-1)])), (p0, .inr (9, [.ref a1, .ref a2, .ref a3, .ref a4, .ref a5, .ref a6, .int 0, .int 0, .int 0, .int 0, .int 0]))] sz) := by
  refine Met.ofW (cc := cX11_end) (maxL := 2) (ret := (some .int)) (by decide) rfl ?_
  intro p e s m args below meth c s₁ B hml hv
  obtain ⟨rfl, hsz, hP, hK, hD0⟩ := hv
  have hx := B.exec
  have hb := B.bytes
  have hr := B.returns
  have hts := atoms_spec (ws := wc_X11_end) B.pre
  have hown : s.vm.findClass RX11 = some m.cls := findClass_of_methodNamed B.named
  have hlocks := B.notSynchronized
  subst hsz
  have hD := hD0.self (sz := s.heap.size)
  generalize hAe : va_A [(h0, .inr (11, [.ref p0, .ref p1, .ref p2, .ref p3, .ref p4, .ref p5, .ref p6, .ref p7, .int (-1)])), (p0, .inr (9, [.ref a1, .ref a2, .ref a3, .ref a4, .ref a5, .ref a6, .int 0, .int 0, .int 0, .int 0, .int 0]))] s.heap.size = A at hD ⊢
  have hA : ∀ q : Nat, s.heap.size ≤ q → A q := fun q h => by rw [← hAe]; exact Or.inr h
  have hS : va_S A s.heap s.heap [] := va_S.rf
  have hl := lv_entry ([.ref h0, .int n]) (n := 2) (Nat.le_of_ble_eq_true rfl)
  rw [lg_entry_eq]
  generalize (lg_sl ([.ref h0, .int n]) ++ List.replicate (2 - (lg_sl ([.ref h0, .int n])).length) Slot.unset).toArray = ls at hl ⊢
  have hl : lv_has ls 2 [(0, .ref h0), (1, .int n)] := hl
  refine lv_iload_n hx hb dX11_end_0 rfl (lv_at hl 1 rfl) ?_
  refine lv_if_lt (tgt := 15) hx hb dX11_end_1 (by decide) (fun c1 => ?_) (fun c1 => ?_)
  · skip
    refine lv_iconst (v := -1) hx hb dX11_end_15 (by decide) ?_
    have hP9 := hP.sub (ws' := []) [] rfl
    have hD9 := hD.sub (ws' := []) [] (by decide) rfl
    have hK9 := hK.sub (tys' := []) [] rfl
    refine W.widen (k := 0) (n := 0) (by omega) (by omega) ?_
    exact W.iret (v := (-1)) hx hb hr (fun t ht hW => ⟨⟨(-1), (), rfl, by rw [if_neg (by intro h; rw [h] at c1; exact absurd c1 (by decide))], by rw [ht]; exact hP9, va_K.moved hW.alike hK9, hD9⟩, hS.F ht⟩) hS.2.2 dX11_end_16
  · skip
    refine lv_iload_n hx hb dX11_end_4 rfl (lv_at hl 1 rfl) ?_
    refine lv_aload_n hx hb dX11_end_5 rfl (lv_at hl 0 rfl) ?_
    refine va_get (D := (dC, dI)) (ci := 11) (v := .ref p0) (C := RX11) (T := TX11) (N := 9) hx hb hts (by decide +kernel) hown hK hP 0 rfl rfl 0 (by decide) (hts (.fieldLink RX11 10 "ProofBench" "tape" "LProofBench$Tape;") (by decide +kernel)) (fun _ h9 => h9) rfl dX11_end_6 ?_
    refine va_get (D := (dC, dI)) (ci := 9) (v := .int 0) (C := RX9) (T := TX9) (N := 11) hx hb hts (by decide +kernel) hown hK hP 1 rfl rfl 6 (by decide) (hts (.fieldLink RX11 74 "ProofBench$Tape" "length" "I") (by decide +kernel)) (fun _ h9 => h9) rfl dX11_end_9 ?_
    refine lv_icmp_le (tgt := 17) hx hb dX11_end_12 (by decide) (fun c2 => ?_) (fun c2 => ?_)
    · skip
      obtain rfl : n = 0 := Int32.le_antisymm c2 (Int32.not_lt.mp c1)
      refine lv_aload_n hx hb dX11_end_17 rfl (lv_at hl 0 rfl) ?_
      refine va_get (D := (dC, dI)) (ci := 11) (v := .ref p0) (C := RX11) (T := TX11) (N := 9) hx hb hts (by decide +kernel) hown hK hP 0 rfl rfl 0 (by decide) (hts (.fieldLink RX11 10 "ProofBench" "tape" "LProofBench$Tape;") (by decide +kernel)) (fun _ h9 => h9) rfl dX11_end_18 ?_
      refine lv_iload_n hx hb dX11_end_21 rfl (lv_at hl 1 rfl) ?_
      refine va_put (D := (dC, dI)) (ci := 9) (v := .int 0) (ty := .int) (C := RX9) (T := TX9) (N := 11) hx hb hts (by decide +kernel) tyX9 tyX9_ok nmX9 hown hK hP hD hS 1 rfl rfl 6 (by decide) (hts (.fieldLink RX11 74 "ProofBench$Tape" "length" "I") (by decide +kernel)) (fun _ h9 => h9) rfl (by decide +kernel) rfl rfl (Nat.le_of_ble_eq_true rfl) dX11_end_22 (fun H locs hP hD hS => ?_)
      have hP : va_P (dC, dI) vwCl [(h0, .inr (11, [.ref p0, .ref p1, .ref p2, .ref p3, .ref p4, .ref p5, .ref p6, .ref p7, .int (-1)])), (p0, .inr (9, [.ref a1, .ref a2, .ref a3, .ref a4, .ref a5, .ref a6, .int 0, .int 0, .int 0, .int 0, .int 0]))] H := hP
      have hD : va_D A [(h0, .inr (11, [.ref p0, .ref p1, .ref p2, .ref p3, .ref p4, .ref p5, .ref p6, .ref p7, .int (-1)])), (p0, .inr (9, [.ref a1, .ref a2, .ref a3, .ref a4, .ref a5, .ref a6, .int 0, .int 0, .int 0, .int 0, .int 0]))] := hD
      refine lv_iload_n hx hb dX11_end_25 rfl (lv_at hl 1 rfl) ?_
      have hP9 := hP.sub (ws' := []) [] rfl
      have hD9 := hD.sub (ws' := []) [] (by decide) rfl
      have hK9 := hK.sub (tys' := []) [] rfl
      refine W.widen (k := 0) (n := 0) (by omega) (by omega) ?_
      exact W.iret (v := 0) hx hb hr (fun t ht hW => ⟨⟨0, (), rfl, rfl, by rw [ht]; exact hP9, va_K.moved hW.alike hK9, hD9⟩, hS.F ht⟩) hS.2.2 dX11_end_26
    · skip
      refine lv_iconst (v := -1) hx hb dX11_end_15 (by decide) ?_
      have hP9 := hP.sub (ws' := []) [] rfl
      have hD9 := hD.sub (ws' := []) [] (by decide) rfl
      have hK9 := hK.sub (tys' := []) [] rfl
      refine W.widen (k := 0) (n := 0) (by omega) (by omega) ?_
      exact W.iret (v := (-1)) hx hb hr (fun t ht hW => ⟨⟨(-1), (), rfl, by rw [if_neg (by intro h; rw [h] at c2; exact absurd (Int32.le_refl _) c2)], by rw [ht]; exact hP9, va_K.moved hW.alike hK9, hD9⟩, hS.F ht⟩) hS.2.2 dX11_end_16
def wc_X11_wrong : List Cond := .code yX11_wrong cX11_wrong 1 (some .int) :: ([Cond.fieldLink RX11 70 "ProofBench" "wrongAt" "I"] ++ wsX110)
set_option maxHeartbeats 1000000 in
set_option maxRecDepth 100000 in
/-- wrong() on a fresh object -/
theorem c_wrong (l : Launch) (dC : Nat → ClassId) (dI : Nat → Nat → Nat) (sz : Nat) (h0 p0 p1 p2 p3 p4 p5 p6 p7 : Nat) : Met l yX11_wrong wc_X11_wrong ({ frames := 0, cells := 0, slots := 0, locals := 0 }) (va_Pc [.ref h0] (fun U => U.heap.size = sz ∧ va_P (dC, dI) vwCl [(h0, .inr (11, [.ref p0, .ref p1, .ref p2, .ref p3, .ref p4, .ref p5, .ref p6, .ref p7, .int (-1)]))] U.heap ∧ va_K (dC, dI) vwCl [] U ∧ va_D (fun _ => True) [(h0, .inr (11, [.ref p0, .ref p1, .ref p2, .ref p3, .ref p4, .ref p5, .ref p6, .ref p7, .int (-1)]))])) (va_Qi (fun (r : Int32) (_ : Unit) => r = -1) (fun _ t => va_P (dC, dI) vwCl [] t.heap ∧ va_K (dC, dI) vwCl [] t ∧ va_D (va_A [(h0, .inr (11, [.ref p0, .ref p1, .ref p2, .ref p3, .ref p4, .ref p5, .ref p6, .ref p7, .int (-1)]))] sz) []) (va_A [(h0, .inr (11, [.ref p0, .ref p1, .ref p2, .ref p3, .ref p4, .ref p5, .ref p6, .ref p7, .int (-1)]))] sz)) (0) (0) (va_A [(h0, .inr (11, [.ref p0, .ref p1, .ref p2, .ref p3, .ref p4, .ref p5, .ref p6, .ref p7, .int (-1)]))] sz) := by
  refine Met.ofW (cc := cX11_wrong) (maxL := 1) (ret := (some .int)) (by decide) rfl ?_
  intro p e s m args below meth c s₁ B hml hv
  obtain ⟨rfl, hsz, hP, hK, hD0⟩ := hv
  have hx := B.exec
  have hb := B.bytes
  have hr := B.returns
  have hts := atoms_spec (ws := wc_X11_wrong) B.pre
  have hown : s.vm.findClass RX11 = some m.cls := findClass_of_methodNamed B.named
  have hlocks := B.notSynchronized
  subst hsz
  have hD := hD0.self (sz := s.heap.size)
  generalize hAe : va_A [(h0, .inr (11, [.ref p0, .ref p1, .ref p2, .ref p3, .ref p4, .ref p5, .ref p6, .ref p7, .int (-1)]))] s.heap.size = A at hD ⊢
  have hA : ∀ q : Nat, s.heap.size ≤ q → A q := fun q h => by rw [← hAe]; exact Or.inr h
  have hS : va_S A s.heap s.heap [] := va_S.rf
  have hl := lv_entry ([.ref h0]) (n := 1) (Nat.le_of_ble_eq_true rfl)
  rw [lg_entry_eq]
  generalize (lg_sl ([.ref h0]) ++ List.replicate (1 - (lg_sl ([.ref h0])).length) Slot.unset).toArray = ls at hl ⊢
  have hl : lv_has ls 1 [(0, .ref h0)] := hl
  refine lv_aload_n hx hb dX11_wrong_0 rfl (lv_at hl 0 rfl) ?_
  refine va_get (D := (dC, dI)) (ci := 11) (v := .int (-1)) (C := RX11) (T := TX11) (N := 9) hx hb hts (by decide +kernel) hown hK hP 0 rfl rfl 8 (by decide) (hts (.fieldLink RX11 70 "ProofBench" "wrongAt" "I") (by decide +kernel)) (fun _ h9 => h9) rfl dX11_wrong_1 ?_
  have hP9 := hP.sub (ws' := []) [] rfl
  have hD9 := hD.sub (ws' := []) [] (by decide) rfl
  have hK9 := hK.sub (tys' := []) [] rfl
  refine W.widen (k := 0) (n := 0) (by omega) (by omega) ?_
  exact W.iret (v := (-1)) hx hb hr (fun t ht hW => ⟨⟨(-1), (), rfl, rfl, by rw [ht]; exact hP9, va_K.moved hW.alike hK9, hD9⟩, hS.F ht⟩) hS.2.2 dX11_wrong_4
def wc_X11_outputs : List Cond := .code yX11_outputs cX11_outputs 1 (some .int) :: ([Cond.fieldLink RX11 62 "ProofBench" "said" "LProofBench$Out;", Cond.fieldLink RX11 81 "ProofBench$Out" "count" "I"] ++ wsX110 ++ wsX40)
set_option maxHeartbeats 1000000 in
set_option maxRecDepth 100000 in
/-- outputs() on a fresh object -/
theorem c_outputs (l : Launch) (dC : Nat → ClassId) (dI : Nat → Nat → Nat) (sz : Nat) (h0 p0 p1 p2 p3 p4 p5 p6 p7 : Nat) (o0 o1 o2 o3 : Nat) : Met l yX11_outputs wc_X11_outputs ({ frames := 0, cells := 0, slots := 0, locals := 0 }) (va_Pc [.ref h0] (fun U => U.heap.size = sz ∧ va_P (dC, dI) vwCl [(h0, .inr (11, [.ref p0, .ref p1, .ref p2, .ref p3, .ref p4, .ref p5, .ref p6, .ref p7, .int (-1)])), (p6, .inr (4, [.ref o0, .ref o1, .ref o2, .ref o3, .int 0]))] U.heap ∧ va_K (dC, dI) vwCl [] U ∧ va_D (fun _ => True) [(h0, .inr (11, [.ref p0, .ref p1, .ref p2, .ref p3, .ref p4, .ref p5, .ref p6, .ref p7, .int (-1)])), (p6, .inr (4, [.ref o0, .ref o1, .ref o2, .ref o3, .int 0]))])) (va_Qi (fun (r : Int32) (_ : Unit) => r = 0) (fun _ t => va_P (dC, dI) vwCl [] t.heap ∧ va_K (dC, dI) vwCl [] t ∧ va_D (va_A [(h0, .inr (11, [.ref p0, .ref p1, .ref p2, .ref p3, .ref p4, .ref p5, .ref p6, .ref p7, .int (-1)])), (p6, .inr (4, [.ref o0, .ref o1, .ref o2, .ref o3, .int 0]))] sz) []) (va_A [(h0, .inr (11, [.ref p0, .ref p1, .ref p2, .ref p3, .ref p4, .ref p5, .ref p6, .ref p7, .int (-1)])), (p6, .inr (4, [.ref o0, .ref o1, .ref o2, .ref o3, .int 0]))] sz)) (0) (0) (va_A [(h0, .inr (11, [.ref p0, .ref p1, .ref p2, .ref p3, .ref p4, .ref p5, .ref p6, .ref p7, .int (-1)])), (p6, .inr (4, [.ref o0, .ref o1, .ref o2, .ref o3, .int 0]))] sz) := by
  refine Met.ofW (cc := cX11_outputs) (maxL := 1) (ret := (some .int)) (by decide) rfl ?_
  intro p e s m args below meth c s₁ B hml hv
  obtain ⟨rfl, hsz, hP, hK, hD0⟩ := hv
  have hx := B.exec
  have hb := B.bytes
  have hr := B.returns
  have hts := atoms_spec (ws := wc_X11_outputs) B.pre
  have hown : s.vm.findClass RX11 = some m.cls := findClass_of_methodNamed B.named
  have hlocks := B.notSynchronized
  subst hsz
  have hD := hD0.self (sz := s.heap.size)
  generalize hAe : va_A [(h0, .inr (11, [.ref p0, .ref p1, .ref p2, .ref p3, .ref p4, .ref p5, .ref p6, .ref p7, .int (-1)])), (p6, .inr (4, [.ref o0, .ref o1, .ref o2, .ref o3, .int 0]))] s.heap.size = A at hD ⊢
  have hA : ∀ q : Nat, s.heap.size ≤ q → A q := fun q h => by rw [← hAe]; exact Or.inr h
  have hS : va_S A s.heap s.heap [] := va_S.rf
  have hl := lv_entry ([.ref h0]) (n := 1) (Nat.le_of_ble_eq_true rfl)
  rw [lg_entry_eq]
  generalize (lg_sl ([.ref h0]) ++ List.replicate (1 - (lg_sl ([.ref h0])).length) Slot.unset).toArray = ls at hl ⊢
  have hl : lv_has ls 1 [(0, .ref h0)] := hl
  refine lv_aload_n hx hb dX11_outputs_0 rfl (lv_at hl 0 rfl) ?_
  refine va_get (D := (dC, dI)) (ci := 11) (v := .ref p6) (C := RX11) (T := TX11) (N := 9) hx hb hts (by decide +kernel) hown hK hP 0 rfl rfl 6 (by decide) (hts (.fieldLink RX11 62 "ProofBench" "said" "LProofBench$Out;") (by decide +kernel)) (fun _ h9 => h9) rfl dX11_outputs_1 ?_
  refine va_get (D := (dC, dI)) (ci := 4) (v := .int 0) (C := RX4) (T := TX4) (N := 5) hx hb hts (by decide +kernel) hown hK hP 1 rfl rfl 4 (by decide) (hts (.fieldLink RX11 81 "ProofBench$Out" "count" "I") (by decide +kernel)) (fun _ h9 => h9) rfl dX11_outputs_4 ?_
  have hP9 := hP.sub (ws' := []) [] rfl
  have hD9 := hD.sub (ws' := []) [] (by decide) rfl
  have hK9 := hK.sub (tys' := []) [] rfl
  refine W.widen (k := 0) (n := 0) (by omega) (by omega) ?_
  exact W.iret (v := 0) hx hb hr (fun t ht hW => ⟨⟨0, (), rfl, rfl, by rw [ht]; exact hP9, va_K.moved hW.alike hK9, hD9⟩, hS.F ht⟩) hS.2.2 dX11_outputs_7
def wc_X11_steps : List Cond := .code yX11_steps cX11_steps 1 (some .int) :: ([Cond.fieldLink RX11 55 "ProofBench" "proof" "LProofBench$Proof;", Cond.fieldLink RX11 117 "ProofBench$Proof" "count" "I"] ++ wsX110 ++ wsX50)
set_option maxHeartbeats 1000000 in
set_option maxRecDepth 100000 in
/-- steps() on a fresh object -/
theorem c_steps (l : Launch) (dC : Nat → ClassId) (dI : Nat → Nat → Nat) (sz : Nat) (h0 p0 p1 p2 p3 p4 p5 p6 p7 : Nat) (s0 s1 s2 s3 s4 s5 s6 s7 s8 s9 s12 : Nat) : Met l yX11_steps wc_X11_steps ({ frames := 0, cells := 0, slots := 0, locals := 0 }) (va_Pc [.ref h0] (fun U => U.heap.size = sz ∧ va_P (dC, dI) vwCl [(h0, .inr (11, [.ref p0, .ref p1, .ref p2, .ref p3, .ref p4, .ref p5, .ref p6, .ref p7, .int (-1)])), (p5, .inr (5, [.ref s0, .ref s1, .ref s2, .ref s3, .ref s4, .ref s5, .ref s6, .ref s7, .ref s8, .ref s9, .int 0, .int 0, .ref s12, .int 0, .int 0, .long 0, .int 0]))] U.heap ∧ va_K (dC, dI) vwCl [] U ∧ va_D (fun _ => True) [(h0, .inr (11, [.ref p0, .ref p1, .ref p2, .ref p3, .ref p4, .ref p5, .ref p6, .ref p7, .int (-1)])), (p5, .inr (5, [.ref s0, .ref s1, .ref s2, .ref s3, .ref s4, .ref s5, .ref s6, .ref s7, .ref s8, .ref s9, .int 0, .int 0, .ref s12, .int 0, .int 0, .long 0, .int 0]))])) (va_Qi (fun (r : Int32) (_ : Unit) => r = 0) (fun _ t => va_P (dC, dI) vwCl [] t.heap ∧ va_K (dC, dI) vwCl [] t ∧ va_D (va_A [(h0, .inr (11, [.ref p0, .ref p1, .ref p2, .ref p3, .ref p4, .ref p5, .ref p6, .ref p7, .int (-1)])), (p5, .inr (5, [.ref s0, .ref s1, .ref s2, .ref s3, .ref s4, .ref s5, .ref s6, .ref s7, .ref s8, .ref s9, .int 0, .int 0, .ref s12, .int 0, .int 0, .long 0, .int 0]))] sz) []) (va_A [(h0, .inr (11, [.ref p0, .ref p1, .ref p2, .ref p3, .ref p4, .ref p5, .ref p6, .ref p7, .int (-1)])), (p5, .inr (5, [.ref s0, .ref s1, .ref s2, .ref s3, .ref s4, .ref s5, .ref s6, .ref s7, .ref s8, .ref s9, .int 0, .int 0, .ref s12, .int 0, .int 0, .long 0, .int 0]))] sz)) (0) (0) (va_A [(h0, .inr (11, [.ref p0, .ref p1, .ref p2, .ref p3, .ref p4, .ref p5, .ref p6, .ref p7, .int (-1)])), (p5, .inr (5, [.ref s0, .ref s1, .ref s2, .ref s3, .ref s4, .ref s5, .ref s6, .ref s7, .ref s8, .ref s9, .int 0, .int 0, .ref s12, .int 0, .int 0, .long 0, .int 0]))] sz) := by
  refine Met.ofW (cc := cX11_steps) (maxL := 1) (ret := (some .int)) (by decide) rfl ?_
  intro p e s m args below meth c s₁ B hml hv
  obtain ⟨rfl, hsz, hP, hK, hD0⟩ := hv
  have hx := B.exec
  have hb := B.bytes
  have hr := B.returns
  have hts := atoms_spec (ws := wc_X11_steps) B.pre
  have hown : s.vm.findClass RX11 = some m.cls := findClass_of_methodNamed B.named
  have hlocks := B.notSynchronized
  subst hsz
  have hD := hD0.self (sz := s.heap.size)
  generalize hAe : va_A [(h0, .inr (11, [.ref p0, .ref p1, .ref p2, .ref p3, .ref p4, .ref p5, .ref p6, .ref p7, .int (-1)])), (p5, .inr (5, [.ref s0, .ref s1, .ref s2, .ref s3, .ref s4, .ref s5, .ref s6, .ref s7, .ref s8, .ref s9, .int 0, .int 0, .ref s12, .int 0, .int 0, .long 0, .int 0]))] s.heap.size = A at hD ⊢
  have hA : ∀ q : Nat, s.heap.size ≤ q → A q := fun q h => by rw [← hAe]; exact Or.inr h
  have hS : va_S A s.heap s.heap [] := va_S.rf
  have hl := lv_entry ([.ref h0]) (n := 1) (Nat.le_of_ble_eq_true rfl)
  rw [lg_entry_eq]
  generalize (lg_sl ([.ref h0]) ++ List.replicate (1 - (lg_sl ([.ref h0])).length) Slot.unset).toArray = ls at hl ⊢
  have hl : lv_has ls 1 [(0, .ref h0)] := hl
  refine lv_aload_n hx hb dX11_steps_0 rfl (lv_at hl 0 rfl) ?_
  refine va_get (D := (dC, dI)) (ci := 11) (v := .ref p5) (C := RX11) (T := TX11) (N := 9) hx hb hts (by decide +kernel) hown hK hP 0 rfl rfl 5 (by decide) (hts (.fieldLink RX11 55 "ProofBench" "proof" "LProofBench$Proof;") (by decide +kernel)) (fun _ h9 => h9) rfl dX11_steps_1 ?_
  refine va_get (D := (dC, dI)) (ci := 5) (v := .int 0) (C := RX5) (T := TX5) (N := 17) hx hb hts (by decide +kernel) hown hK hP 1 rfl rfl 10 (by decide) (hts (.fieldLink RX11 117 "ProofBench$Proof" "count" "I") (by decide +kernel)) (fun _ h9 => h9) rfl dX11_steps_4 ?_
  have hP9 := hP.sub (ws' := []) [] rfl
  have hD9 := hD.sub (ws' := []) [] (by decide) rfl
  have hK9 := hK.sub (tys' := []) [] rfl
  refine W.widen (k := 0) (n := 0) (by omega) (by omega) ?_
  exact W.iret (v := 0) hx hb hr (fun t ht hW => ⟨⟨0, (), rfl, rfl, by rw [ht]; exact hP9, va_K.moved hW.alike hK9, hD9⟩, hS.F ht⟩) hS.2.2 dX11_steps_7
def wc_X4_at : List Cond := .code yX4_at cX4_at 2 (some .int) :: ([Cond.fieldLink RX4 27 "ProofBench$Out" "count" "I"] ++ wsX40)
set_option maxHeartbeats 1000000 in
set_option maxRecDepth 100000 in
/-- at(i): nothing is out -/
theorem c_at (l : Launch) (dC : Nat → ClassId) (dI : Nat → Nat → Nat) (sz : Nat) (h0 o0 o1 o2 o3 : Nat) (i : Int32) : Met l yX4_at wc_X4_at ({ frames := 0, cells := 0, slots := 0, locals := 0 }) (va_Pc [.ref h0, .int i] (fun U => U.heap.size = sz ∧ va_P (dC, dI) vwCl [(h0, .inr (4, [.ref o0, .ref o1, .ref o2, .ref o3, .int 0]))] U.heap ∧ va_K (dC, dI) vwCl [] U ∧ va_D (fun _ => True) [(h0, .inr (4, [.ref o0, .ref o1, .ref o2, .ref o3, .int 0]))])) (va_Qi (fun (r : Int32) (_ : Unit) => r = 0) (fun _ t => va_P (dC, dI) vwCl [(h0, .inr (4, [.ref o0, .ref o1, .ref o2, .ref o3, .int 0]))] t.heap ∧ va_K (dC, dI) vwCl [] t ∧ va_D (va_A [(h0, .inr (4, [.ref o0, .ref o1, .ref o2, .ref o3, .int 0]))] sz) [(h0, .inr (4, [.ref o0, .ref o1, .ref o2, .ref o3, .int 0]))]) (va_A [(h0, .inr (4, [.ref o0, .ref o1, .ref o2, .ref o3, .int 0]))] sz)) (0) (0) (va_A [(h0, .inr (4, [.ref o0, .ref o1, .ref o2, .ref o3, .int 0]))] sz) := by
  refine Met.ofW (cc := cX4_at) (maxL := 2) (ret := (some .int)) (by decide) rfl ?_
  intro p e s m args below meth c s₁ B hml hv
  obtain ⟨rfl, hsz, hP, hK, hD0⟩ := hv
  have hx := B.exec
  have hb := B.bytes
  have hr := B.returns
  have hts := atoms_spec (ws := wc_X4_at) B.pre
  have hown : s.vm.findClass RX4 = some m.cls := findClass_of_methodNamed B.named
  have hlocks := B.notSynchronized
  subst hsz
  have hD := hD0.self (sz := s.heap.size)
  generalize hAe : va_A [(h0, .inr (4, [.ref o0, .ref o1, .ref o2, .ref o3, .int 0]))] s.heap.size = A at hD ⊢
  have hA : ∀ q : Nat, s.heap.size ≤ q → A q := fun q h => by rw [← hAe]; exact Or.inr h
  have hS : va_S A s.heap s.heap [] := va_S.rf
  have hl := lv_entry ([.ref h0, .int i]) (n := 2) (Nat.le_of_ble_eq_true rfl)
  rw [lg_entry_eq]
  generalize (lg_sl ([.ref h0, .int i]) ++ List.replicate (2 - (lg_sl ([.ref h0, .int i])).length) Slot.unset).toArray = ls at hl ⊢
  have hl : lv_has ls 2 [(0, .ref h0), (1, .int i)] := hl
  refine lv_iload_n hx hb dX4_at_0 rfl (lv_at hl 1 rfl) ?_
  refine lv_if_lt (tgt := 28) hx hb dX4_at_1 (by decide) (fun c1 => ?_) (fun c1 => ?_)
  · skip
    refine lv_iconst (v := 0) hx hb dX4_at_28 (by decide) ?_
    have hP9 := hP.sub (ws' := [(h0, .inr (4, [.ref o0, .ref o1, .ref o2, .ref o3, .int 0]))]) [0] rfl
    have hD9 := hD.sub (ws' := [(h0, .inr (4, [.ref o0, .ref o1, .ref o2, .ref o3, .int 0]))]) [0] (by decide) rfl
    have hK9 := hK.sub (tys' := []) [] rfl
    refine W.widen (k := 0) (n := 0) (by omega) (by omega) ?_
    exact W.iret (v := 0) hx hb hr (fun t ht hW => ⟨⟨0, (), rfl, rfl, by rw [ht]; exact hP9, va_K.moved hW.alike hK9, hD9⟩, hS.F ht⟩) hS.2.2 dX4_at_29
  · skip
    refine lv_iload_n hx hb dX4_at_4 rfl (lv_at hl 1 rfl) ?_
    refine lv_aload_n hx hb dX4_at_5 rfl (lv_at hl 0 rfl) ?_
    refine va_get (D := (dC, dI)) (ci := 4) (v := .int 0) (C := RX4) (T := TX4) (N := 5) hx hb hts (by decide +kernel) hown hK hP 0 rfl rfl 4 (by decide) (hts (.fieldLink RX4 27 "ProofBench$Out" "count" "I") (by decide +kernel)) (fun _ h9 => h9) rfl dX4_at_6 ?_
    refine lv_icmp_ge (tgt := 28) hx hb dX4_at_9 (by decide) (fun c2 => ?_) (fun c2 => absurd (Int32.not_lt.mp c1) c2)
    refine lv_iconst (v := 0) hx hb dX4_at_28 (by decide) ?_
    have hP9 := hP.sub (ws' := [(h0, .inr (4, [.ref o0, .ref o1, .ref o2, .ref o3, .int 0]))]) [0] rfl
    have hD9 := hD.sub (ws' := [(h0, .inr (4, [.ref o0, .ref o1, .ref o2, .ref o3, .int 0]))]) [0] (by decide) rfl
    have hK9 := hK.sub (tys' := []) [] rfl
    refine W.widen (k := 0) (n := 0) (by omega) (by omega) ?_
    exact W.iret (v := 0) hx hb hr (fun t ht hW => ⟨⟨0, (), rfl, rfl, by rw [ht]; exact hP9, va_K.moved hW.alike hK9, hD9⟩, hS.F ht⟩) hS.2.2 dX4_at_29
def wc_X11_out : List Cond := .code yX11_out cX11_out 2 (some .int) :: ([Cond.fieldLink RX11 62 "ProofBench" "said" "LProofBench$Out;"] ++ wsX110 ++ wsV RX11 114 RX4 yX4_at wc_X4_at)
set_option maxRecDepth 20000 in
theorem gc_X11_out__X4_at : GoodIn wc_X11_out (wsV RX11 114 RX4 yX4_at wc_X4_at) := goodIn_of _ (by decide +kernel)
set_option maxHeartbeats 1000000 in
set_option maxRecDepth 100000 in
/-- out(i) on a fresh object -/
theorem c_out (l : Launch) (dC : Nat → ClassId) (dI : Nat → Nat → Nat) (sz : Nat) (h0 p0 p1 p2 p3 p4 p5 p6 p7 : Nat) (o0 o1 o2 o3 : Nat) (i : Int32) : Met l yX11_out wc_X11_out ({ frames := 1, cells := 0, slots := 0, locals := 21 }) (va_Pc [.ref h0, .int i] (fun U => U.heap.size = sz ∧ va_P (dC, dI) vwCl [(h0, .inr (11, [.ref p0, .ref p1, .ref p2, .ref p3, .ref p4, .ref p5, .ref p6, .ref p7, .int (-1)])), (p6, .inr (4, [.ref o0, .ref o1, .ref o2, .ref o3, .int 0]))] U.heap ∧ va_K (dC, dI) vwCl [] U ∧ va_D (fun _ => True) [(h0, .inr (11, [.ref p0, .ref p1, .ref p2, .ref p3, .ref p4, .ref p5, .ref p6, .ref p7, .int (-1)])), (p6, .inr (4, [.ref o0, .ref o1, .ref o2, .ref o3, .int 0]))])) (va_Qi (fun (r : Int32) (_ : Unit) => r = 0) (fun _ t => va_P (dC, dI) vwCl [] t.heap ∧ va_K (dC, dI) vwCl [] t ∧ va_D (va_A [(h0, .inr (11, [.ref p0, .ref p1, .ref p2, .ref p3, .ref p4, .ref p5, .ref p6, .ref p7, .int (-1)])), (p6, .inr (4, [.ref o0, .ref o1, .ref o2, .ref o3, .int 0]))] sz) []) (va_A [(h0, .inr (11, [.ref p0, .ref p1, .ref p2, .ref p3, .ref p4, .ref p5, .ref p6, .ref p7, .int (-1)])), (p6, .inr (4, [.ref o0, .ref o1, .ref o2, .ref o3, .int 0]))] sz)) (0) (0) (va_A [(h0, .inr (11, [.ref p0, .ref p1, .ref p2, .ref p3, .ref p4, .ref p5, .ref p6, .ref p7, .int (-1)])), (p6, .inr (4, [.ref o0, .ref o1, .ref o2, .ref o3, .int 0]))] sz) := by
  refine Met.ofW (cc := cX11_out) (maxL := 2) (ret := (some .int)) (by decide) rfl ?_
  intro p e s m args below meth c s₁ B hml hv
  obtain ⟨rfl, hsz, hP, hK, hD0⟩ := hv
  have hx := B.exec
  have hb := B.bytes
  have hr := B.returns
  have hts := atoms_spec (ws := wc_X11_out) B.pre
  have hown : s.vm.findClass RX11 = some m.cls := findClass_of_methodNamed B.named
  have hlocks := B.notSynchronized
  subst hsz
  have hD := hD0.self (sz := s.heap.size)
  generalize hAe : va_A [(h0, .inr (11, [.ref p0, .ref p1, .ref p2, .ref p3, .ref p4, .ref p5, .ref p6, .ref p7, .int (-1)])), (p6, .inr (4, [.ref o0, .ref o1, .ref o2, .ref o3, .int 0]))] s.heap.size = A at hD ⊢
  have hA : ∀ q : Nat, s.heap.size ≤ q → A q := fun q h => by rw [← hAe]; exact Or.inr h
  have hS : va_S A s.heap s.heap [] := va_S.rf
  have hl := lv_entry ([.ref h0, .int i]) (n := 2) (Nat.le_of_ble_eq_true rfl)
  rw [lg_entry_eq]
  generalize (lg_sl ([.ref h0, .int i]) ++ List.replicate (2 - (lg_sl ([.ref h0, .int i])).length) Slot.unset).toArray = ls at hl ⊢
  have hl : lv_has ls 2 [(0, .ref h0), (1, .int i)] := hl
  refine lv_aload_n hx hb dX11_out_0 rfl (lv_at hl 0 rfl) ?_
  refine va_get (D := (dC, dI)) (ci := 11) (v := .ref p6) (C := RX11) (T := TX11) (N := 9) hx hb hts (by decide +kernel) hown hK hP 0 rfl rfl 6 (by decide) (hts (.fieldLink RX11 62 "ProofBench" "said" "LProofBench$Out;") (by decide +kernel)) (fun _ h9 => h9) rfl dX11_out_1 ?_
  refine lv_iload_n hx hb dX11_out_4 rfl (lv_at hl 1 rfl) ?_
  have hPc := hP.sub (ws' := [(p6, .inr (4, [.ref o0, .ref o1, .ref o2, .ref o3, .int 0]))]) [1] rfl
  have hDc := hD.sub (ws' := [(p6, .inr (4, [.ref o0, .ref o1, .ref o2, .ref o3, .int 0]))]) [1] (by decide) rfl
  have hKc := hK.sub (tys' := []) [] rfl
  have hFc := va_free (wc := [(p6, .inr (4, [.ref o0, .ref o1, .ref o2, .ref o3, .int 0]))]) hD hS hA [1] rfl
  refine va_calli (va_runV (As := [.int i]) (rest := []) ⟨hx, hb, hml, hown, hts⟩ (c_at l dC dI s.heap.size p6 o0 o1 o2 o3 i) (cwV 1 hts gc_X11_out__X4_at rfl rfl rfl (by decide +kernel) ⟨Nat.le_of_ble_eq_true rfl, Nat.le_of_ble_eq_true rfl⟩) ⟨fun a U g mk q => by obtain ⟨q0, q1, qP, qK, qD⟩ := q; exact ⟨q0, q1, qP, va_K.moved (u := U) (U := U.calling g mk a) (Vm.Alike.refl U.vm) qK, qD⟩, va_recv hKc hPc (ci := 4) (q0 := 0) rfl rfl, fun U hU hW => ⟨rfl, by rw [hU], by rw [hU]; exact hPc, va_K.moved hW.alike hKc, hDc.weaken (fun _ _ _ _ => trivial)⟩⟩ rfl rfl hl.1 rfl (lv_room (Nat.le_of_ble_eq_true rfl)) dX11_out_5 ⟨(show 0 + 0 ≤ 0 by omega), (show 0 + 0 ≤ 0 by omega)⟩) hS (fun q _ h => hFc q h) hFc (fun r0 u t H1 locs ht hvm hw hB hz1 hk1 hS => ?_)
  obtain ⟨hP1, hK1, hD1⟩ := hB
  rw [ht] at hP1
  have hK1 := va_K.moved hvm.symm hK1
  obtain ⟨hP, hD⟩ := va_join (wr := [(h0, .inr (11, [.ref p0, .ref p1, .ref p2, .ref p3, .ref p4, .ref p5, .ref p6, .ref p7, .int (-1)]))]) (w1 := [(p6, .inr (4, [.ref o0, .ref o1, .ref o2, .ref o3, .int 0]))]) hP hD [1] [0] rfl rfl (by decide) (by decide) hk1 hFc hP1 hD1
  have hK := (hK.sub (tys' := []) [] rfl).app hK1
  generalize H1 = H at hP hS ⊢
  have hP : va_P (dC, dI) vwCl [(h0, .inr (11, [.ref p0, .ref p1, .ref p2, .ref p3, .ref p4, .ref p5, .ref p6, .ref p7, .int (-1)])), (p6, .inr (4, [.ref o0, .ref o1, .ref o2, .ref o3, .int 0]))] H := hP
  have hD : va_D A [(h0, .inr (11, [.ref p0, .ref p1, .ref p2, .ref p3, .ref p4, .ref p5, .ref p6, .ref p7, .int (-1)])), (p6, .inr (4, [.ref o0, .ref o1, .ref o2, .ref o3, .int 0]))] := hD
  have hK : va_K (dC, dI) vwCl [] s := hK
  refine W.widen (k := 0) (n := 0) (by omega) (by omega) ?_
  subst hw
  have hP9 := hP.sub (ws' := []) [] rfl
  have hD9 := hD.sub (ws' := []) [] (by decide) rfl
  have hK9 := hK.sub (tys' := []) [] rfl
  refine W.widen (k := 0) (n := 0) (by omega) (by omega) ?_
  exact W.iret (v := 0) hx hb hr (fun t ht hW => ⟨⟨0, (), rfl, rfl, by rw [ht]; exact hP9, va_K.moved hW.alike hK9, hD9⟩, hS.F ht⟩) hS.2.2 dX11_out_8
def wc_X11_hypotheses : List Cond := .code yX11_hypotheses cX11_hypotheses 2 (some .int) :: ([Cond.fieldLink RX11 55 "ProofBench" "proof" "LProofBench$Proof;", Cond.fieldLink RX11 117 "ProofBench$Proof" "count" "I"] ++ wsX110 ++ wsX50)
set_option maxHeartbeats 1000000 in
set_option maxRecDepth 100000 in
/-- hypotheses(p) on a fresh object -/
theorem c_hypotheses (l : Launch) (dC : Nat → ClassId) (dI : Nat → Nat → Nat) (sz : Nat) (h0 p0 p1 p2 p3 p4 p5 p6 p7 : Nat) (s0 s1 s2 s3 s4 s5 s6 s7 s8 s9 s12 : Nat) (i : Int32) : Met l yX11_hypotheses wc_X11_hypotheses ({ frames := 0, cells := 0, slots := 0, locals := 0 }) (va_Pc [.ref h0, .int i] (fun U => U.heap.size = sz ∧ va_P (dC, dI) vwCl [(h0, .inr (11, [.ref p0, .ref p1, .ref p2, .ref p3, .ref p4, .ref p5, .ref p6, .ref p7, .int (-1)])), (p5, .inr (5, [.ref s0, .ref s1, .ref s2, .ref s3, .ref s4, .ref s5, .ref s6, .ref s7, .ref s8, .ref s9, .int 0, .int 0, .ref s12, .int 0, .int 0, .long 0, .int 0]))] U.heap ∧ va_K (dC, dI) vwCl [] U ∧ va_D (fun _ => True) [(h0, .inr (11, [.ref p0, .ref p1, .ref p2, .ref p3, .ref p4, .ref p5, .ref p6, .ref p7, .int (-1)])), (p5, .inr (5, [.ref s0, .ref s1, .ref s2, .ref s3, .ref s4, .ref s5, .ref s6, .ref s7, .ref s8, .ref s9, .int 0, .int 0, .ref s12, .int 0, .int 0, .long 0, .int 0]))])) (va_Qi (fun (r : Int32) (_ : Unit) => r = -1) (fun _ t => va_P (dC, dI) vwCl [] t.heap ∧ va_K (dC, dI) vwCl [] t ∧ va_D (va_A [(h0, .inr (11, [.ref p0, .ref p1, .ref p2, .ref p3, .ref p4, .ref p5, .ref p6, .ref p7, .int (-1)])), (p5, .inr (5, [.ref s0, .ref s1, .ref s2, .ref s3, .ref s4, .ref s5, .ref s6, .ref s7, .ref s8, .ref s9, .int 0, .int 0, .ref s12, .int 0, .int 0, .long 0, .int 0]))] sz) []) (va_A [(h0, .inr (11, [.ref p0, .ref p1, .ref p2, .ref p3, .ref p4, .ref p5, .ref p6, .ref p7, .int (-1)])), (p5, .inr (5, [.ref s0, .ref s1, .ref s2, .ref s3, .ref s4, .ref s5, .ref s6, .ref s7, .ref s8, .ref s9, .int 0, .int 0, .ref s12, .int 0, .int 0, .long 0, .int 0]))] sz)) (0) (0) (va_A [(h0, .inr (11, [.ref p0, .ref p1, .ref p2, .ref p3, .ref p4, .ref p5, .ref p6, .ref p7, .int (-1)])), (p5, .inr (5, [.ref s0, .ref s1, .ref s2, .ref s3, .ref s4, .ref s5, .ref s6, .ref s7, .ref s8, .ref s9, .int 0, .int 0, .ref s12, .int 0, .int 0, .long 0, .int 0]))] sz) := by
  refine Met.ofW (cc := cX11_hypotheses) (maxL := 2) (ret := (some .int)) (by decide) rfl ?_
  intro p e s m args below meth c s₁ B hml hv
  obtain ⟨rfl, hsz, hP, hK, hD0⟩ := hv
  have hx := B.exec
  have hb := B.bytes
  have hr := B.returns
  have hts := atoms_spec (ws := wc_X11_hypotheses) B.pre
  have hown : s.vm.findClass RX11 = some m.cls := findClass_of_methodNamed B.named
  have hlocks := B.notSynchronized
  subst hsz
  have hD := hD0.self (sz := s.heap.size)
  generalize hAe : va_A [(h0, .inr (11, [.ref p0, .ref p1, .ref p2, .ref p3, .ref p4, .ref p5, .ref p6, .ref p7, .int (-1)])), (p5, .inr (5, [.ref s0, .ref s1, .ref s2, .ref s3, .ref s4, .ref s5, .ref s6, .ref s7, .ref s8, .ref s9, .int 0, .int 0, .ref s12, .int 0, .int 0, .long 0, .int 0]))] s.heap.size = A at hD ⊢
  have hA : ∀ q : Nat, s.heap.size ≤ q → A q := fun q h => by rw [← hAe]; exact Or.inr h
  have hS : va_S A s.heap s.heap [] := va_S.rf
  have hl := lv_entry ([.ref h0, .int i]) (n := 2) (Nat.le_of_ble_eq_true rfl)
  rw [lg_entry_eq]
  generalize (lg_sl ([.ref h0, .int i]) ++ List.replicate (2 - (lg_sl ([.ref h0, .int i])).length) Slot.unset).toArray = ls at hl ⊢
  have hl : lv_has ls 2 [(0, .ref h0), (1, .int i)] := hl
  refine lv_iload_n hx hb dX11_hypotheses_0 rfl (lv_at hl 1 rfl) ?_
  refine lv_if_lt (tgt := 15) hx hb dX11_hypotheses_1 (by decide) (fun c1 => ?_) (fun c1 => ?_)
  · skip
    refine lv_iconst (v := -1) hx hb dX11_hypotheses_15 (by decide) ?_
    refine lv_goto (tgt := 31) hx hb dX11_hypotheses_16 (by decide) ?_
    have hP9 := hP.sub (ws' := []) [] rfl
    have hD9 := hD.sub (ws' := []) [] (by decide) rfl
    have hK9 := hK.sub (tys' := []) [] rfl
    refine W.widen (k := 0) (n := 0) (by omega) (by omega) ?_
    exact W.iret (v := (-1)) hx hb hr (fun t ht hW => ⟨⟨(-1), (), rfl, rfl, by rw [ht]; exact hP9, va_K.moved hW.alike hK9, hD9⟩, hS.F ht⟩) hS.2.2 dX11_hypotheses_31
  · skip
    refine lv_iload_n hx hb dX11_hypotheses_4 rfl (lv_at hl 1 rfl) ?_
    refine lv_aload_n hx hb dX11_hypotheses_5 rfl (lv_at hl 0 rfl) ?_
    refine va_get (D := (dC, dI)) (ci := 11) (v := .ref p5) (C := RX11) (T := TX11) (N := 9) hx hb hts (by decide +kernel) hown hK hP 0 rfl rfl 5 (by decide) (hts (.fieldLink RX11 55 "ProofBench" "proof" "LProofBench$Proof;") (by decide +kernel)) (fun _ h9 => h9) rfl dX11_hypotheses_6 ?_
    refine va_get (D := (dC, dI)) (ci := 5) (v := .int 0) (C := RX5) (T := TX5) (N := 17) hx hb hts (by decide +kernel) hown hK hP 1 rfl rfl 10 (by decide) (hts (.fieldLink RX11 117 "ProofBench$Proof" "count" "I") (by decide +kernel)) (fun _ h9 => h9) rfl dX11_hypotheses_9 ?_
    refine lv_icmp_lt (tgt := 19) hx hb dX11_hypotheses_12 (by decide) (fun c2 => absurd c2 c1) (fun c2 => ?_)
    refine lv_iconst (v := -1) hx hb dX11_hypotheses_15 (by decide) ?_
    refine lv_goto (tgt := 31) hx hb dX11_hypotheses_16 (by decide) ?_
    have hP9 := hP.sub (ws' := []) [] rfl
    have hD9 := hD.sub (ws' := []) [] (by decide) rfl
    have hK9 := hK.sub (tys' := []) [] rfl
    refine W.widen (k := 0) (n := 0) (by omega) (by omega) ?_
    exact W.iret (v := (-1)) hx hb hr (fun t ht hW => ⟨⟨(-1), (), rfl, rfl, by rw [ht]; exact hP9, va_K.moved hW.alike hK9, hD9⟩, hS.F ht⟩) hS.2.2 dX11_hypotheses_31
def wc_X11_facts : List Cond := .code yX11_facts cX11_facts 1 (some .int) :: ([Cond.fieldLink RX11 19 "ProofBench" "names" "LProofBench$Names;", Cond.fieldLink RX11 128 "ProofBench$Names" "counts" "[I"] ++ wsX110 ++ wsX30)
set_option maxHeartbeats 1000000 in
set_option maxRecDepth 100000 in
/-- facts() on a fresh object -/
theorem c_facts (l : Launch) (dC : Nat → ClassId) (dI : Nat → Nat → Nat) (sz : Nat) (h0 p0 p1 p2 p3 p4 p5 p6 p7 : Nat) (n1 n2 n3 n4 n5 : Nat) (cN : ClassId) (gN : Nat → Int32) (hg : gN 4 = 0) : Met l yX11_facts wc_X11_facts ({ frames := 0, cells := 0, slots := 0, locals := 0 }) (va_Pc [.ref h0] (fun U => U.heap.size = sz ∧ va_P (dC, dI) vwCl [(h0, .inr (11, [.ref p0, .ref p1, .ref p2, .ref p3, .ref p4, .ref p5, .ref p6, .ref p7, .int (-1)])), (p1, .inr (3, [.ref n1, .ref n2, .ref n3, .ref n4, .ref n5])), (n1, .inl (cN, 5, .inl (gN)))] U.heap ∧ va_K (dC, dI) vwCl [(cN, .int)] U ∧ va_D (fun _ => True) [(h0, .inr (11, [.ref p0, .ref p1, .ref p2, .ref p3, .ref p4, .ref p5, .ref p6, .ref p7, .int (-1)])), (p1, .inr (3, [.ref n1, .ref n2, .ref n3, .ref n4, .ref n5])), (n1, .inl (cN, 5, .inl (gN)))])) (va_Qi (fun (r : Int32) (_ : Unit) => r = 0) (fun _ t => va_P (dC, dI) vwCl [] t.heap ∧ va_K (dC, dI) vwCl [] t ∧ va_D (va_A [(h0, .inr (11, [.ref p0, .ref p1, .ref p2, .ref p3, .ref p4, .ref p5, .ref p6, .ref p7, .int (-1)])), (p1, .inr (3, [.ref n1, .ref n2, .ref n3, .ref n4, .ref n5])), (n1, .inl (cN, 5, .inl (gN)))] sz) []) (va_A [(h0, .inr (11, [.ref p0, .ref p1, .ref p2, .ref p3, .ref p4, .ref p5, .ref p6, .ref p7, .int (-1)])), (p1, .inr (3, [.ref n1, .ref n2, .ref n3, .ref n4, .ref n5])), (n1, .inl (cN, 5, .inl (gN)))] sz)) (0) (0) (va_A [(h0, .inr (11, [.ref p0, .ref p1, .ref p2, .ref p3, .ref p4, .ref p5, .ref p6, .ref p7, .int (-1)])), (p1, .inr (3, [.ref n1, .ref n2, .ref n3, .ref n4, .ref n5])), (n1, .inl (cN, 5, .inl (gN)))] sz) := by
  refine Met.ofW (cc := cX11_facts) (maxL := 1) (ret := (some .int)) (by decide) rfl ?_
  intro p e s m args below meth c s₁ B hml hv
  obtain ⟨rfl, hsz, hP, hK, hD0⟩ := hv
  have hx := B.exec
  have hb := B.bytes
  have hr := B.returns
  have hts := atoms_spec (ws := wc_X11_facts) B.pre
  have hown : s.vm.findClass RX11 = some m.cls := findClass_of_methodNamed B.named
  have hlocks := B.notSynchronized
  subst hsz
  have hD := hD0.self (sz := s.heap.size)
  generalize hAe : va_A [(h0, .inr (11, [.ref p0, .ref p1, .ref p2, .ref p3, .ref p4, .ref p5, .ref p6, .ref p7, .int (-1)])), (p1, .inr (3, [.ref n1, .ref n2, .ref n3, .ref n4, .ref n5])), (n1, .inl (cN, 5, .inl (gN)))] s.heap.size = A at hD ⊢
  have hA : ∀ q : Nat, s.heap.size ≤ q → A q := fun q h => by rw [← hAe]; exact Or.inr h
  have hS : va_S A s.heap s.heap [] := va_S.rf
  have hl := lv_entry ([.ref h0]) (n := 1) (Nat.le_of_ble_eq_true rfl)
  rw [lg_entry_eq]
  generalize (lg_sl ([.ref h0]) ++ List.replicate (1 - (lg_sl ([.ref h0])).length) Slot.unset).toArray = ls at hl ⊢
  have hl : lv_has ls 1 [(0, .ref h0)] := hl
  refine lv_aload_n hx hb dX11_facts_0 rfl (lv_at hl 0 rfl) ?_
  refine va_get (D := (dC, dI)) (ci := 11) (v := .ref p1) (C := RX11) (T := TX11) (N := 9) hx hb hts (by decide +kernel) hown hK hP 0 rfl rfl 1 (by decide) (hts (.fieldLink RX11 19 "ProofBench" "names" "LProofBench$Names;") (by decide +kernel)) (fun _ h9 => h9) rfl dX11_facts_1 ?_
  refine va_get (D := (dC, dI)) (ci := 3) (v := .ref n1) (C := RX3) (T := TX3) (N := 5) hx hb hts (by decide +kernel) hown hK hP 1 rfl rfl 0 (by decide) (hts (.fieldLink RX11 128 "ProofBench$Names" "counts" "[I") (by decide +kernel)) (fun _ h9 => h9) rfl dX11_facts_4 ?_
  refine lv_iconst (v := 4) hx hb dX11_facts_7 (by decide) ?_
  refine va_iald hx hb hK hP 2 0 rfl rfl (show vp_in (4) 5 from by unfold vp_in; decide) dX11_facts_8 ?_
  refine lv_topi (fun z_1 e9 => ?_)
  obtain rfl : z_1 = 0 := by rw [e9]; exact hg
  have hP9 := hP.sub (ws' := []) [] rfl
  have hD9 := hD.sub (ws' := []) [] (by decide) rfl
  have hK9 := hK.sub (tys' := []) [] rfl
  refine W.widen (k := 0) (n := 0) (by omega) (by omega) ?_
  exact W.iret (v := 0) hx hb hr (fun t ht hW => ⟨⟨0, (), rfl, rfl, by rw [ht]; exact hP9, va_K.moved hW.alike hK9, hD9⟩, hS.F ht⟩) hS.2.2 dX11_facts_9
def wc_X11_leans : List Cond := .code yX11_leans cX11_leans 3 (some .int) :: ([Cond.fieldLink RX11 19 "ProofBench" "names" "LProofBench$Names;", Cond.fieldLink RX11 128 "ProofBench$Names" "counts" "[I"] ++ wsX110 ++ wsX30)
set_option maxHeartbeats 1000000 in
set_option maxRecDepth 100000 in
/-- leans(i, j) on a fresh object -/
theorem c_leans (l : Launch) (dC : Nat → ClassId) (dI : Nat → Nat → Nat) (sz : Nat) (h0 p0 p1 p2 p3 p4 p5 p6 p7 : Nat) (n1 n2 n3 n4 n5 : Nat) (cN : ClassId) (gN : Nat → Int32) (hg : gN 4 = 0) (i j : Int32) : Met l yX11_leans wc_X11_leans ({ frames := 0, cells := 0, slots := 0, locals := 0 }) (va_Pc [.ref h0, .int i, .int j] (fun U => U.heap.size = sz ∧ va_P (dC, dI) vwCl [(h0, .inr (11, [.ref p0, .ref p1, .ref p2, .ref p3, .ref p4, .ref p5, .ref p6, .ref p7, .int (-1)])), (p1, .inr (3, [.ref n1, .ref n2, .ref n3, .ref n4, .ref n5])), (n1, .inl (cN, 5, .inl (gN)))] U.heap ∧ va_K (dC, dI) vwCl [(cN, .int)] U ∧ va_D (fun _ => True) [(h0, .inr (11, [.ref p0, .ref p1, .ref p2, .ref p3, .ref p4, .ref p5, .ref p6, .ref p7, .int (-1)])), (p1, .inr (3, [.ref n1, .ref n2, .ref n3, .ref n4, .ref n5])), (n1, .inl (cN, 5, .inl (gN)))])) (va_Qi (fun (r : Int32) (_ : Unit) => r = -1) (fun _ t => va_P (dC, dI) vwCl [] t.heap ∧ va_K (dC, dI) vwCl [] t ∧ va_D (va_A [(h0, .inr (11, [.ref p0, .ref p1, .ref p2, .ref p3, .ref p4, .ref p5, .ref p6, .ref p7, .int (-1)])), (p1, .inr (3, [.ref n1, .ref n2, .ref n3, .ref n4, .ref n5])), (n1, .inl (cN, 5, .inl (gN)))] sz) []) (va_A [(h0, .inr (11, [.ref p0, .ref p1, .ref p2, .ref p3, .ref p4, .ref p5, .ref p6, .ref p7, .int (-1)])), (p1, .inr (3, [.ref n1, .ref n2, .ref n3, .ref n4, .ref n5])), (n1, .inl (cN, 5, .inl (gN)))] sz)) (0) (0) (va_A [(h0, .inr (11, [.ref p0, .ref p1, .ref p2, .ref p3, .ref p4, .ref p5, .ref p6, .ref p7, .int (-1)])), (p1, .inr (3, [.ref n1, .ref n2, .ref n3, .ref n4, .ref n5])), (n1, .inl (cN, 5, .inl (gN)))] sz) := by
  refine Met.ofW (cc := cX11_leans) (maxL := 3) (ret := (some .int)) (by decide) rfl ?_
  intro p e s m args below meth c s₁ B hml hv
  obtain ⟨rfl, hsz, hP, hK, hD0⟩ := hv
  have hx := B.exec
  have hb := B.bytes
  have hr := B.returns
  have hts := atoms_spec (ws := wc_X11_leans) B.pre
  have hown : s.vm.findClass RX11 = some m.cls := findClass_of_methodNamed B.named
  have hlocks := B.notSynchronized
  subst hsz
  have hD := hD0.self (sz := s.heap.size)
  generalize hAe : va_A [(h0, .inr (11, [.ref p0, .ref p1, .ref p2, .ref p3, .ref p4, .ref p5, .ref p6, .ref p7, .int (-1)])), (p1, .inr (3, [.ref n1, .ref n2, .ref n3, .ref n4, .ref n5])), (n1, .inl (cN, 5, .inl (gN)))] s.heap.size = A at hD ⊢
  have hA : ∀ q : Nat, s.heap.size ≤ q → A q := fun q h => by rw [← hAe]; exact Or.inr h
  have hS : va_S A s.heap s.heap [] := va_S.rf
  have hl := lv_entry ([.ref h0, .int i, .int j]) (n := 3) (Nat.le_of_ble_eq_true rfl)
  rw [lg_entry_eq]
  generalize (lg_sl ([.ref h0, .int i, .int j]) ++ List.replicate (3 - (lg_sl ([.ref h0, .int i, .int j])).length) Slot.unset).toArray = ls at hl ⊢
  have hl : lv_has ls 3 [(0, .ref h0), (1, .int i), (2, .int j)] := hl
  refine lv_iload_n hx hb dX11_leans_0 rfl (lv_at hl 1 rfl) ?_
  refine lv_if_lt (tgt := 34) hx hb dX11_leans_1 (by decide) (fun c1 => ?_) (fun c1 => ?_)
  · skip
    refine lv_iconst (v := -1) hx hb dX11_leans_34 (by decide) ?_
    have hP9 := hP.sub (ws' := []) [] rfl
    have hD9 := hD.sub (ws' := []) [] (by decide) rfl
    have hK9 := hK.sub (tys' := []) [] rfl
    refine W.widen (k := 0) (n := 0) (by omega) (by omega) ?_
    exact W.iret (v := (-1)) hx hb hr (fun t ht hW => ⟨⟨(-1), (), rfl, rfl, by rw [ht]; exact hP9, va_K.moved hW.alike hK9, hD9⟩, hS.F ht⟩) hS.2.2 dX11_leans_35
  · skip
    refine lv_iload_n hx hb dX11_leans_4 rfl (lv_at hl 1 rfl) ?_
    refine lv_aload_n hx hb dX11_leans_5 rfl (lv_at hl 0 rfl) ?_
    refine va_get (D := (dC, dI)) (ci := 11) (v := .ref p1) (C := RX11) (T := TX11) (N := 9) hx hb hts (by decide +kernel) hown hK hP 0 rfl rfl 1 (by decide) (hts (.fieldLink RX11 19 "ProofBench" "names" "LProofBench$Names;") (by decide +kernel)) (fun _ h9 => h9) rfl dX11_leans_6 ?_
    refine va_get (D := (dC, dI)) (ci := 3) (v := .ref n1) (C := RX3) (T := TX3) (N := 5) hx hb hts (by decide +kernel) hown hK hP 1 rfl rfl 0 (by decide) (hts (.fieldLink RX11 128 "ProofBench$Names" "counts" "[I") (by decide +kernel)) (fun _ h9 => h9) rfl dX11_leans_9 ?_
    refine lv_iconst (v := 4) hx hb dX11_leans_12 (by decide) ?_
    refine va_iald hx hb hK hP 2 0 rfl rfl (show vp_in (4) 5 from by unfold vp_in; decide) dX11_leans_13 ?_
    refine lv_topi (fun z_1 e9 => ?_)
    obtain rfl : z_1 = 0 := by rw [e9]; exact hg
    refine lv_icmp_ge (tgt := 34) hx hb dX11_leans_14 (by decide) (fun c2 => ?_) (fun c2 => absurd (Int32.not_lt.mp c1) c2)
    refine lv_iconst (v := -1) hx hb dX11_leans_34 (by decide) ?_
    have hP9 := hP.sub (ws' := []) [] rfl
    have hD9 := hD.sub (ws' := []) [] (by decide) rfl
    have hK9 := hK.sub (tys' := []) [] rfl
    refine W.widen (k := 0) (n := 0) (by omega) (by omega) ?_
    exact W.iret (v := (-1)) hx hb hr (fun t ht hW => ⟨⟨(-1), (), rfl, rfl, by rw [ht]; exact hP9, va_K.moved hW.alike hK9, hD9⟩, hS.F ht⟩) hS.2.2 dX11_leans_35
def wc_X11_inductive : List Cond := .code yX11_inductive cX11_inductive 2 (some .int) :: ([Cond.fieldLink RX11 19 "ProofBench" "names" "LProofBench$Names;", Cond.fieldLink RX11 128 "ProofBench$Names" "counts" "[I"] ++ wsX110 ++ wsX30)
set_option maxHeartbeats 1000000 in
set_option maxRecDepth 100000 in
/-- inductive(i) on a fresh object -/
theorem c_inductive (l : Launch) (dC : Nat → ClassId) (dI : Nat → Nat → Nat) (sz : Nat) (h0 p0 p1 p2 p3 p4 p5 p6 p7 : Nat) (n1 n2 n3 n4 n5 : Nat) (cN : ClassId) (gN : Nat → Int32) (hg : gN 4 = 0) (i : Int32) : Met l yX11_inductive wc_X11_inductive ({ frames := 0, cells := 0, slots := 0, locals := 0 }) (va_Pc [.ref h0, .int i] (fun U => U.heap.size = sz ∧ va_P (dC, dI) vwCl [(h0, .inr (11, [.ref p0, .ref p1, .ref p2, .ref p3, .ref p4, .ref p5, .ref p6, .ref p7, .int (-1)])), (p1, .inr (3, [.ref n1, .ref n2, .ref n3, .ref n4, .ref n5])), (n1, .inl (cN, 5, .inl (gN)))] U.heap ∧ va_K (dC, dI) vwCl [(cN, .int)] U ∧ va_D (fun _ => True) [(h0, .inr (11, [.ref p0, .ref p1, .ref p2, .ref p3, .ref p4, .ref p5, .ref p6, .ref p7, .int (-1)])), (p1, .inr (3, [.ref n1, .ref n2, .ref n3, .ref n4, .ref n5])), (n1, .inl (cN, 5, .inl (gN)))])) (va_Qi (fun (r : Int32) (_ : Unit) => r = -1) (fun _ t => va_P (dC, dI) vwCl [] t.heap ∧ va_K (dC, dI) vwCl [] t ∧ va_D (va_A [(h0, .inr (11, [.ref p0, .ref p1, .ref p2, .ref p3, .ref p4, .ref p5, .ref p6, .ref p7, .int (-1)])), (p1, .inr (3, [.ref n1, .ref n2, .ref n3, .ref n4, .ref n5])), (n1, .inl (cN, 5, .inl (gN)))] sz) []) (va_A [(h0, .inr (11, [.ref p0, .ref p1, .ref p2, .ref p3, .ref p4, .ref p5, .ref p6, .ref p7, .int (-1)])), (p1, .inr (3, [.ref n1, .ref n2, .ref n3, .ref n4, .ref n5])), (n1, .inl (cN, 5, .inl (gN)))] sz)) (0) (0) (va_A [(h0, .inr (11, [.ref p0, .ref p1, .ref p2, .ref p3, .ref p4, .ref p5, .ref p6, .ref p7, .int (-1)])), (p1, .inr (3, [.ref n1, .ref n2, .ref n3, .ref n4, .ref n5])), (n1, .inl (cN, 5, .inl (gN)))] sz) := by
  refine Met.ofW (cc := cX11_inductive) (maxL := 2) (ret := (some .int)) (by decide) rfl ?_
  intro p e s m args below meth c s₁ B hml hv
  obtain ⟨rfl, hsz, hP, hK, hD0⟩ := hv
  have hx := B.exec
  have hb := B.bytes
  have hr := B.returns
  have hts := atoms_spec (ws := wc_X11_inductive) B.pre
  have hown : s.vm.findClass RX11 = some m.cls := findClass_of_methodNamed B.named
  have hlocks := B.notSynchronized
  subst hsz
  have hD := hD0.self (sz := s.heap.size)
  generalize hAe : va_A [(h0, .inr (11, [.ref p0, .ref p1, .ref p2, .ref p3, .ref p4, .ref p5, .ref p6, .ref p7, .int (-1)])), (p1, .inr (3, [.ref n1, .ref n2, .ref n3, .ref n4, .ref n5])), (n1, .inl (cN, 5, .inl (gN)))] s.heap.size = A at hD ⊢
  have hA : ∀ q : Nat, s.heap.size ≤ q → A q := fun q h => by rw [← hAe]; exact Or.inr h
  have hS : va_S A s.heap s.heap [] := va_S.rf
  have hl := lv_entry ([.ref h0, .int i]) (n := 2) (Nat.le_of_ble_eq_true rfl)
  rw [lg_entry_eq]
  generalize (lg_sl ([.ref h0, .int i]) ++ List.replicate (2 - (lg_sl ([.ref h0, .int i])).length) Slot.unset).toArray = ls at hl ⊢
  have hl : lv_has ls 2 [(0, .ref h0), (1, .int i)] := hl
  refine lv_iload_n hx hb dX11_inductive_0 rfl (lv_at hl 1 rfl) ?_
  refine lv_if_lt (tgt := 17) hx hb dX11_inductive_1 (by decide) (fun c1 => ?_) (fun c1 => ?_)
  · skip
    refine lv_iconst (v := -1) hx hb dX11_inductive_17 (by decide) ?_
    have hP9 := hP.sub (ws' := []) [] rfl
    have hD9 := hD.sub (ws' := []) [] (by decide) rfl
    have hK9 := hK.sub (tys' := []) [] rfl
    refine W.widen (k := 0) (n := 0) (by omega) (by omega) ?_
    exact W.iret (v := (-1)) hx hb hr (fun t ht hW => ⟨⟨(-1), (), rfl, rfl, by rw [ht]; exact hP9, va_K.moved hW.alike hK9, hD9⟩, hS.F ht⟩) hS.2.2 dX11_inductive_18
  · skip
    refine lv_iload_n hx hb dX11_inductive_4 rfl (lv_at hl 1 rfl) ?_
    refine lv_aload_n hx hb dX11_inductive_5 rfl (lv_at hl 0 rfl) ?_
    refine va_get (D := (dC, dI)) (ci := 11) (v := .ref p1) (C := RX11) (T := TX11) (N := 9) hx hb hts (by decide +kernel) hown hK hP 0 rfl rfl 1 (by decide) (hts (.fieldLink RX11 19 "ProofBench" "names" "LProofBench$Names;") (by decide +kernel)) (fun _ h9 => h9) rfl dX11_inductive_6 ?_
    refine va_get (D := (dC, dI)) (ci := 3) (v := .ref n1) (C := RX3) (T := TX3) (N := 5) hx hb hts (by decide +kernel) hown hK hP 1 rfl rfl 0 (by decide) (hts (.fieldLink RX11 128 "ProofBench$Names" "counts" "[I") (by decide +kernel)) (fun _ h9 => h9) rfl dX11_inductive_9 ?_
    refine lv_iconst (v := 4) hx hb dX11_inductive_12 (by decide) ?_
    refine va_iald hx hb hK hP 2 0 rfl rfl (show vp_in (4) 5 from by unfold vp_in; decide) dX11_inductive_13 ?_
    refine lv_topi (fun z_1 e9 => ?_)
    obtain rfl : z_1 = 0 := by rw [e9]; exact hg
    refine lv_icmp_lt (tgt := 19) hx hb dX11_inductive_14 (by decide) (fun c2 => absurd c2 c1) (fun c2 => ?_)
    refine lv_iconst (v := -1) hx hb dX11_inductive_17 (by decide) ?_
    have hP9 := hP.sub (ws' := []) [] rfl
    have hD9 := hD.sub (ws' := []) [] (by decide) rfl
    have hK9 := hK.sub (tys' := []) [] rfl
    refine W.widen (k := 0) (n := 0) (by omega) (by omega) ?_
    exact W.iret (v := (-1)) hx hb hr (fun t ht hW => ⟨⟨(-1), (), rfl, rfl, by rw [ht]; exact hP9, va_K.moved hW.alike hK9, hD9⟩, hS.F ht⟩) hS.2.2 dX11_inductive_18
def wc_X11_refusals : List Cond := .code yX11_refusals cX11_refusals 2 (some .int) :: ([Cond.fieldLink RX11 66 "ProofBench" "refused" "[I"] ++ wsX110)
set_option maxHeartbeats 1000000 in
set_option maxRecDepth 100000 in
/-- refusals(why) on a fresh object -/
theorem c_refusals (l : Launch) (dC : Nat → ClassId) (dI : Nat → Nat → Nat) (sz : Nat) (h0 p0 p1 p2 p3 p4 p5 p6 p7 : Nat) (cR : ClassId) (i : Int32) : Met l yX11_refusals wc_X11_refusals ({ frames := 0, cells := 0, slots := 0, locals := 0 }) (va_Pc [.ref h0, .int i] (fun U => U.heap.size = sz ∧ va_P (dC, dI) vwCl [(h0, .inr (11, [.ref p0, .ref p1, .ref p2, .ref p3, .ref p4, .ref p5, .ref p6, .ref p7, .int (-1)])), (p7, .inl (cR, 16, .inl (fun _ => 0)))] U.heap ∧ va_K (dC, dI) vwCl [(cR, .int)] U ∧ va_D (fun _ => True) [(h0, .inr (11, [.ref p0, .ref p1, .ref p2, .ref p3, .ref p4, .ref p5, .ref p6, .ref p7, .int (-1)])), (p7, .inl (cR, 16, .inl (fun _ => 0)))])) (va_Qi (fun (r : Int32) (_ : Unit) => r = 0) (fun _ t => va_P (dC, dI) vwCl [] t.heap ∧ va_K (dC, dI) vwCl [] t ∧ va_D (va_A [(h0, .inr (11, [.ref p0, .ref p1, .ref p2, .ref p3, .ref p4, .ref p5, .ref p6, .ref p7, .int (-1)])), (p7, .inl (cR, 16, .inl (fun _ => 0)))] sz) []) (va_A [(h0, .inr (11, [.ref p0, .ref p1, .ref p2, .ref p3, .ref p4, .ref p5, .ref p6, .ref p7, .int (-1)])), (p7, .inl (cR, 16, .inl (fun _ => 0)))] sz)) (0) (0) (va_A [(h0, .inr (11, [.ref p0, .ref p1, .ref p2, .ref p3, .ref p4, .ref p5, .ref p6, .ref p7, .int (-1)])), (p7, .inl (cR, 16, .inl (fun _ => 0)))] sz) := by
  refine Met.ofW (cc := cX11_refusals) (maxL := 2) (ret := (some .int)) (by decide) rfl ?_
  intro p e s m args below meth c s₁ B hml hv
  obtain ⟨rfl, hsz, hP, hK, hD0⟩ := hv
  have hx := B.exec
  have hb := B.bytes
  have hr := B.returns
  have hts := atoms_spec (ws := wc_X11_refusals) B.pre
  have hown : s.vm.findClass RX11 = some m.cls := findClass_of_methodNamed B.named
  have hlocks := B.notSynchronized
  subst hsz
  have hD := hD0.self (sz := s.heap.size)
  generalize hAe : va_A [(h0, .inr (11, [.ref p0, .ref p1, .ref p2, .ref p3, .ref p4, .ref p5, .ref p6, .ref p7, .int (-1)])), (p7, .inl (cR, 16, .inl (fun _ => 0)))] s.heap.size = A at hD ⊢
  have hA : ∀ q : Nat, s.heap.size ≤ q → A q := fun q h => by rw [← hAe]; exact Or.inr h
  have hS : va_S A s.heap s.heap [] := va_S.rf
  have hl := lv_entry ([.ref h0, .int i]) (n := 2) (Nat.le_of_ble_eq_true rfl)
  rw [lg_entry_eq]
  generalize (lg_sl ([.ref h0, .int i]) ++ List.replicate (2 - (lg_sl ([.ref h0, .int i])).length) Slot.unset).toArray = ls at hl ⊢
  have hl : lv_has ls 2 [(0, .ref h0), (1, .int i)] := hl
  refine lv_iload_n hx hb dX11_refusals_0 rfl (lv_at hl 1 rfl) ?_
  refine lv_if_lt (tgt := 10) hx hb dX11_refusals_1 (by decide) (fun c1 => ?_) (fun c1 => ?_)
  · skip
    refine lv_iconst (v := 0) hx hb dX11_refusals_10 (by decide) ?_
    refine lv_goto (tgt := 20) hx hb dX11_refusals_11 (by decide) ?_
    have hP9 := hP.sub (ws' := []) [] rfl
    have hD9 := hD.sub (ws' := []) [] (by decide) rfl
    have hK9 := hK.sub (tys' := []) [] rfl
    refine W.widen (k := 0) (n := 0) (by omega) (by omega) ?_
    exact W.iret (v := 0) hx hb hr (fun t ht hW => ⟨⟨0, (), rfl, rfl, by rw [ht]; exact hP9, va_K.moved hW.alike hK9, hD9⟩, hS.F ht⟩) hS.2.2 dX11_refusals_20
  · skip
    refine lv_iload_n hx hb dX11_refusals_4 rfl (lv_at hl 1 rfl) ?_
    refine lv_bipush (v := 16) hx hb dX11_refusals_5 (by decide) ?_
    refine lv_icmp_lt (tgt := 14) hx hb dX11_refusals_7 (by decide) (fun c2 => ?_) (fun c2 => ?_)
    · skip
      refine lv_aload_n hx hb dX11_refusals_14 rfl (lv_at hl 0 rfl) ?_
      refine va_get (D := (dC, dI)) (ci := 11) (v := .ref p7) (C := RX11) (T := TX11) (N := 9) hx hb hts (by decide +kernel) hown hK hP 0 rfl rfl 7 (by decide) (hts (.fieldLink RX11 66 "ProofBench" "refused" "[I") (by decide +kernel)) (fun _ h9 => h9) rfl dX11_refusals_15 ?_
      refine lv_iload_n hx hb dX11_refusals_18 rfl (lv_at hl 1 rfl) ?_
      have hin : vp_in i 16 := vp_in_iff.mpr ⟨by have := Int32.le_iff_toInt_le.mp (Int32.not_lt.mp c1); simpa using this, by have := Int32.lt_iff_toInt_lt.mp c2; simpa using this⟩
      refine va_iald hx hb hK hP 1 0 rfl rfl hin dX11_refusals_19 ?_
      have hP9 := hP.sub (ws' := []) [] rfl
      have hD9 := hD.sub (ws' := []) [] (by decide) rfl
      have hK9 := hK.sub (tys' := []) [] rfl
      refine W.widen (k := 0) (n := 0) (by omega) (by omega) ?_
      exact W.iret (v := 0) hx hb hr (fun t ht hW => ⟨⟨0, (), rfl, rfl, by rw [ht]; exact hP9, va_K.moved hW.alike hK9, hD9⟩, hS.F ht⟩) hS.2.2 dX11_refusals_20
    · skip
      refine lv_iconst (v := 0) hx hb dX11_refusals_10 (by decide) ?_
      refine lv_goto (tgt := 20) hx hb dX11_refusals_11 (by decide) ?_
      have hP9 := hP.sub (ws' := []) [] rfl
      have hD9 := hD.sub (ws' := []) [] (by decide) rfl
      have hK9 := hK.sub (tys' := []) [] rfl
      refine W.widen (k := 0) (n := 0) (by omega) (by omega) ?_
      exact W.iret (v := 0) hx hb hr (fun t ht hW => ⟨⟨0, (), rfl, rfl, by rw [ht]; exact hP9, va_K.moved hW.alike hK9, hD9⟩, hS.F ht⟩) hS.2.2 dX11_refusals_20
