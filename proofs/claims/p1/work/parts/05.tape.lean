abbrev cX9_init : ByteArray := prog_11_method_1_code
def yX9_init : MethodName := ⟨RX9, "<init>", "()V"⟩
def wsX9_init_r1 : List Cond := [Cond.methodLink RX9 3 objectInit, Cond.instanceMethod objectInit, Cond.code objectInit ⟨#[0xb1]⟩ 1 none, Cond.arrayClass .byte, Cond.fieldLink RX9 9 "ProofBench$Tape" "bytes" "[B", Cond.arrayClass .int, Cond.fieldLink RX9 15 "ProofBench$Tape" "kinds" "[I", Cond.fieldLink RX9 19 "ProofBench$Tape" "starts" "[I", Cond.arrayClass .long, Cond.fieldLink RX9 22 "ProofBench$Tape" "worths" "[J", Cond.fieldLink RX9 26 "ProofBench$Tape" "formAt" "[I", Cond.fieldLink RX9 29 "ProofBench$Tape" "operandAt" "[I", Cond.methodLink RX9 34 yJ0_length_8abf5, Cond.instanceMethod yJ0_length_8abf5, Cond.selects RJ0 yJ0_length_8abf5 yJ0_length_8abf5, Cond.initialized RJ0, Cond.code yJ0_length_8abf5 cJ0_length_8abf5 1 (some .int), Cond.fieldLink RJ0 9 "java/lang/String" "value" "[B", Cond.methodLink RJ0 335 yJ0_coder_7d493, Cond.instanceMethod yJ0_coder_7d493, Cond.selects RJ0 yJ0_coder_7d493 yJ0_coder_7d493, Cond.code yJ0_coder_7d493 cJ0_coder_7d493 1 (some .byte), Cond.fieldLink RJ0 38 "java/lang/String" "COMPACT_STRINGS" "Z", Cond.fieldLink RJ0 15 "java/lang/String" "coder" "B"]
def wsX9_init_r2 : List Cond := [Cond.methodLink RX9 40 yJ0_charAt_5068e, Cond.instanceMethod yJ0_charAt_5068e, Cond.selects RJ0 yJ0_charAt_5068e yJ0_charAt_5068e, Cond.code yJ0_charAt_5068e cJ0_charAt_5068e 2 (some .char), Cond.methodLink RJ0 492 yJ0_isLatin1_aae02, Cond.instanceMethod yJ0_isLatin1_aae02, Cond.selects RJ0 yJ0_isLatin1_aae02 yJ0_isLatin1_aae02, Cond.code yJ0_isLatin1_aae02 cJ0_isLatin1_aae02 1 (some .boolean), Cond.methodLink RJ0 495 yJ1_charAt_3b067, Cond.static yJ1_charAt_3b067, Cond.initialized RJ1, Cond.code yJ1_charAt_3b067 cJ1_charAt_3b067 2 (some .char), Cond.methodLink RJ1 9 yJ0_checkIndex_df160, Cond.static yJ0_checkIndex_df160, Cond.code yJ0_checkIndex_df160 cJ0_checkIndex_df160 2 none, Cond.fieldLink RJ0 1053 "jdk/internal/util/Preconditions" "SIOOBE_FORMATTER" "Ljava/util/function/BiFunction;", Cond.methodLink RJ0 1059 yJ3_checkIndex_8e157, Cond.static yJ3_checkIndex_8e157, Cond.initialized RJ3, Cond.code yJ3_checkIndex_8e157 cJ3_checkIndex_8e157 3 (some .int), Cond.methodLink RJ0 498 yJ2_charAt_3b067, Cond.static yJ2_charAt_3b067, Cond.initialized RJ2, Cond.code yJ2_charAt_3b067 cJ2_charAt_3b067 2 (some .char)]
def wsX9_init_r3 : List Cond := [Cond.methodLink RJ2 67 yJ2_checkIndex_2214a, Cond.static yJ2_checkIndex_2214a, Cond.code yJ2_checkIndex_2214a cJ2_checkIndex_2214a 2 none, Cond.methodLink RJ2 48 yJ2_length_9d52b, Cond.static yJ2_length_9d52b, Cond.code yJ2_length_9d52b cJ2_length_9d52b 1 (some .int), Cond.methodLink RJ2 414 yJ0_checkIndex_df160, Cond.methodLink RJ2 71 yJ2_getChar_3b067, Cond.static yJ2_getChar_3b067, Cond.code yJ2_getChar_3b067 cJ2_getChar_3b067 2 (some .char), Cond.fieldLink RJ2 44 "java/lang/StringUTF16" "$assertionsDisabled" "Z", Cond.fieldLink RJ2 59 "java/lang/StringUTF16" "HI_BYTE_SHIFT" "I", Cond.fieldLink RJ2 63 "java/lang/StringUTF16" "LO_BYTE_SHIFT" "I"]
def wsX9_init : List Cond := .code yX9_init cX9_init 3 none :: ((wsX9_init_r1 ++ (wsX9_init_r2 ++ wsX9_init_r3)) ++ wsX90)
theorem dX9_init_0 : decode cX9_init 0 = .ok (.aload_n 0, 1) := by decide +kernel
theorem dX9_init_1 : decode cX9_init 1 = .ok (.invokespecial 3, 3) := by decide +kernel
theorem dX9_init_4 : decode cX9_init 4 = .ok (.aload_n 0, 1) := by decide +kernel
theorem dX9_init_5 : decode cX9_init 5 = .ok (.sipush 4000, 3) := by decide +kernel
theorem dX9_init_8 : decode cX9_init 8 = .ok (.newarray .byte, 2) := by decide +kernel
theorem dX9_init_10 : decode cX9_init 10 = .ok (.putfield 9, 3) := by decide +kernel
theorem dX9_init_13 : decode cX9_init 13 = .ok (.aload_n 0, 1) := by decide +kernel
theorem dX9_init_14 : decode cX9_init 14 = .ok (.sipush 4002, 3) := by decide +kernel
theorem dX9_init_17 : decode cX9_init 17 = .ok (.newarray .int, 2) := by decide +kernel
theorem dX9_init_19 : decode cX9_init 19 = .ok (.putfield 15, 3) := by decide +kernel
theorem dX9_init_22 : decode cX9_init 22 = .ok (.aload_n 0, 1) := by decide +kernel
theorem dX9_init_23 : decode cX9_init 23 = .ok (.sipush 4002, 3) := by decide +kernel
theorem dX9_init_26 : decode cX9_init 26 = .ok (.newarray .int, 2) := by decide +kernel
theorem dX9_init_28 : decode cX9_init 28 = .ok (.putfield 19, 3) := by decide +kernel
theorem dX9_init_31 : decode cX9_init 31 = .ok (.aload_n 0, 1) := by decide +kernel
theorem dX9_init_32 : decode cX9_init 32 = .ok (.sipush 4002, 3) := by decide +kernel
theorem dX9_init_35 : decode cX9_init 35 = .ok (.newarray .long, 2) := by decide +kernel
theorem dX9_init_37 : decode cX9_init 37 = .ok (.putfield 22, 3) := by decide +kernel
theorem dX9_init_40 : decode cX9_init 40 = .ok (.aload_n 0, 1) := by decide +kernel
theorem dX9_init_41 : decode cX9_init 41 = .ok (.bipush 39, 2) := by decide +kernel
theorem dX9_init_43 : decode cX9_init 43 = .ok (.newarray .int, 2) := by decide +kernel
theorem dX9_init_45 : decode cX9_init 45 = .ok (.putfield 26, 3) := by decide +kernel
theorem dX9_init_48 : decode cX9_init 48 = .ok (.aload_n 0, 1) := by decide +kernel
theorem dX9_init_49 : decode cX9_init 49 = .ok (.iconst 4, 1) := by decide +kernel
theorem dX9_init_50 : decode cX9_init 50 = .ok (.newarray .int, 2) := by decide +kernel
theorem dX9_init_52 : decode cX9_init 52 = .ok (.putfield 29, 3) := by decide +kernel
theorem dX9_init_55 : decode cX9_init 55 = .ok (.iconst 0, 1) := by decide +kernel
theorem dX9_init_56 : decode cX9_init 56 = .ok (.istore_n 1, 1) := by decide +kernel
theorem dX9_init_57 : decode cX9_init 57 = .ok (.iconst 0, 1) := by decide +kernel
theorem dX9_init_58 : decode cX9_init 58 = .ok (.istore_n 2, 1) := by decide +kernel
theorem dX9_init_59 : decode cX9_init 59 = .ok (.iload_n 2, 1) := by decide +kernel
theorem dX9_init_60 : decode cX9_init 60 = .ok (.bipush 39, 2) := by decide +kernel
theorem dX9_init_62 : decode cX9_init 62 = .ok (.if_icmp .ge 45, 3) := by decide +kernel
theorem dX9_init_65 : decode cX9_init 65 = .ok (.aload_n 0, 1) := by decide +kernel
theorem dX9_init_66 : decode cX9_init 66 = .ok (.getfield 26, 3) := by decide +kernel
theorem dX9_init_69 : decode cX9_init 69 = .ok (.iload_n 2, 1) := by decide +kernel
theorem dX9_init_70 : decode cX9_init 70 = .ok (.iload_n 1, 1) := by decide +kernel
theorem dX9_init_71 : decode cX9_init 71 = .ok (.iastore, 1) := by decide +kernel
theorem dX9_init_72 : decode cX9_init 72 = .ok (.iload_n 1, 1) := by decide +kernel
theorem dX9_init_73 : decode cX9_init 73 = .ok (.ldc 32, 2) := by decide +kernel
theorem dX9_init_75 : decode cX9_init 75 = .ok (.invokevirtual 34, 3) := by decide +kernel
theorem dX9_init_78 : decode cX9_init 78 = .ok (.if_icmp .ge 20, 3) := by decide +kernel
theorem dX9_init_81 : decode cX9_init 81 = .ok (.ldc 32, 2) := by decide +kernel
theorem dX9_init_83 : decode cX9_init 83 = .ok (.iload_n 1, 1) := by decide +kernel
theorem dX9_init_84 : decode cX9_init 84 = .ok (.invokevirtual 40, 3) := by decide +kernel
theorem dX9_init_87 : decode cX9_init 87 = .ok (.bipush 59, 2) := by decide +kernel
theorem dX9_init_89 : decode cX9_init 89 = .ok (.if_icmp .eq 9, 3) := by decide +kernel
theorem dX9_init_92 : decode cX9_init 92 = .ok (.iinc 1 1, 3) := by decide +kernel
theorem dX9_init_95 : decode cX9_init 95 = .ok (.goto (-23), 3) := by decide +kernel
theorem dX9_init_98 : decode cX9_init 98 = .ok (.iinc 1 1, 3) := by decide +kernel
theorem dX9_init_101 : decode cX9_init 101 = .ok (.iinc 2 1, 3) := by decide +kernel
theorem dX9_init_104 : decode cX9_init 104 = .ok (.goto (-45), 3) := by decide +kernel
theorem dX9_init_107 : decode cX9_init 107 = .ok (.return_, 1) := by decide +kernel
set_option maxRecDepth 20000 in
theorem ggX9_init_J0_length_8abf5 : GoodIn wsX9_init wsJ0_length_8abf5 := goodIn_r _ [17, 18, 19, 20, 21, 16, 22, 23, 24] (by decide +kernel) (by decide +kernel)
set_option maxRecDepth 20000 in
theorem gX9_init_J0_length_8abf5 : GoodIn wsX9_init (wsV RX9 34 RJ0 yJ0_length_8abf5 wsJ0_length_8abf5) := goodIn_app (goodIn_of _ (by decide +kernel)) ggX9_init_J0_length_8abf5
set_option maxRecDepth 20000 in
theorem ggX9_init_J0_charAt_5068e : GoodIn wsX9_init wsJ0_charAt_5068e := goodIn_r _ [28, 18, 29, 30, 31, 16, 32, 23, 24, 33, 34, 35, 36, 37, 38, 39, 40, 41, 42, 43, 44, 45, 46, 47, 48, 49, 50, 51, 52, 53, 54, 55, 56, 57, 58, 59, 60, 61] (by decide +kernel) (by decide +kernel)
set_option maxRecDepth 20000 in
theorem gX9_init_J0_charAt_5068e : GoodIn wsX9_init (wsV RX9 40 RJ0 yJ0_charAt_5068e wsJ0_charAt_5068e) := goodIn_app (goodIn_of _ (by decide +kernel)) ggX9_init_J0_charAt_5068e
set_option maxHeartbeats 1000000 in
set_option maxRecDepth 100000 in
/-- Names(): no FACT -/
theorem c_Names_init (l : Launch) (dC : Nat → ClassId) (dI : Nat → Nat → Nat) (sz : Nat) (h0 b1 v1 n1 b2 v2 n2 : Nat) (f1 f2 : Nat → Int32) (hn1 : n1 < 2 ^ 31) (hn2 : n2 < 2 ^ 31) : Met l yX3_init wsX3_init ({ frames := 5, cells := 6, slots := 1208, locals := 108 }) (va_Pc [.ref h0] (fun U => U.heap.size = sz ∧ va_P (dC, dI) vwCl [(h0, .inr (3, [.null, .null, .null, .null, .null]))] U.heap ∧ va_K (dC, dI) vwCl [] U ∧ va_D (fun _ => True) [(h0, .inr (3, [.null, .null, .null, .null, .null]))] ∧ vk_R RX3 28 "num" b1 U ∧ vk_R RX3 38 "next" b2 U ∧ st_S b1 v1 n1 f1 (va_A [(h0, .inr (3, [.null, .null, .null, .null, .null]))] sz) U U.heap ∧ st_S b2 v2 n2 f2 (va_A [(h0, .inr (3, [.null, .null, .null, .null, .null]))] sz) U U.heap)) (va_Qv (fun _ : Unit => True) (fun _ t => ∃ (q_1 : Nat) (q_3 : Nat) (q_5 : Nat) (q_7 : Nat) (q_9 : Nat) (cA_2 : ClassId) (f_24 : Nat → Int32), va_P (dC, dI) vwCl [(h0, .inr (3, [.ref q_1, .ref q_3, .ref q_5, .ref q_7, .ref q_9])), (q_1, .inl (cA_2, 5, .inl (f_24)))] t.heap ∧ va_K (dC, dI) vwCl [(cA_2, .int)] t ∧ va_D (va_A [(h0, .inr (3, [.null, .null, .null, .null, .null]))] sz) [(h0, .inr (3, [.ref q_1, .ref q_3, .ref q_5, .ref q_7, .ref q_9])), (q_1, .inl (cA_2, 5, .inl (f_24)))] ∧ f_24 4 = 0) (va_A [(h0, .inr (3, [.null, .null, .null, .null, .null]))] sz)) (6) (1208) (va_A [(h0, .inr (3, [.null, .null, .null, .null, .null]))] sz) := by
  refine Met.ofW (cc := cX3_init) (maxL := 2) (ret := none) (by decide) rfl ?_
  intro p e s m args below meth c s₁ B hml hv
  obtain ⟨rfl, hsz, hP, hK, hD0, hR1, hR2, hst1, hst2⟩ := hv
  have hx := B.exec
  have hb := B.bytes
  have hr := B.returns
  have hts := atoms_spec (ws := wsX3_init) B.pre
  have hown : s.vm.findClass RX3 = some m.cls := findClass_of_methodNamed B.named
  have hlocks := B.notSynchronized
  have hin : meth.name = "<init>" := (name_of_methodNamed B.named B.method).1
  subst hsz
  have hD := hD0.self (sz := s.heap.size)
  generalize hAe : va_A [(h0, .inr (3, [.null, .null, .null, .null, .null]))] s.heap.size = A at hD hst1 hst2 ⊢
  have hA : ∀ q : Nat, s.heap.size ≤ q → A q := fun q h => by rw [← hAe]; exact Or.inr h
  have hS : va_S A s.heap s.heap [] := va_S.rf
  have hl := lv_entry ([.ref h0]) (n := 2) (Nat.le_of_ble_eq_true rfl)
  rw [lg_entry_eq]
  generalize (lg_sl ([.ref h0]) ++ List.replicate (2 - (lg_sl ([.ref h0])).length) Slot.unset).toArray = ls at hl ⊢
  have hl : lv_has ls 2 [(0, .ref h0)] := hl
  refine lv_aload_n hx hb dX3_init_0 rfl (lv_at hl 0 rfl) ?_
  refine W.objInit hx hb hown (hts (.methodLink RX3 3 objectInit) (by decide +kernel)) (hts (.instanceMethod objectInit) (by decide +kernel)) (hts (.code objectInit ⟨#[0xb1]⟩ 1 none) (by decide +kernel)) rfl (by rw [hml]; exact hl.1) rfl dX3_init_1 (Nat.le_of_ble_eq_true rfl) (Nat.le_of_ble_eq_true rfl) ?_
  refine W.eq (g2 := F0 m 4 ls []) rfl ?_
  refine lv_aload_n hx hb dX3_init_4 rfl (lv_at hl 0 rfl) ?_
  refine lv_iconst (v := 5) hx hb dX3_init_5 (by decide) ?_
  refine va_newa (atype := .int) (n := 5) (N' := 5) (ty := .int) (a0 := (5, .inl (fun _ => 0))) hx hb (hts (.arrayClass .int) (by decide +kernel)) rfl hK hP hD hS hA (fun _ => rfl) (by decide) (by decide) (by decide) (show 0 + 1 ≤ 6 by omega) (show 0 + 5 ≤ 1208 by omega) dX3_init_6 (fun q_1 cA_2 H hK hP hD hS => ?_)
  have hP : va_P (dC, dI) vwCl [(h0, .inr (3, [.null, .null, .null, .null, .null])), (q_1, .inl (cA_2, 5, .inl (fun _ => 0)))] H := hP
  have hD : va_D A [(h0, .inr (3, [.null, .null, .null, .null, .null])), (q_1, .inl (cA_2, 5, .inl (fun _ => 0)))] := hD
  have hK : va_K (dC, dI) vwCl [(cA_2, .int)] s := hK
  refine W.widen (k := 1) (n := 5) (by omega) (by omega) ?_
  refine va_putF (D := (dC, dI)) (ci := 3) (v := .ref q_1) (ty := .array .int) (C := RX3) (T := TX3) (N := 5) hx hb hts (by decide +kernel) tyX3 tyX3_ok nmX3 hown hK hP hD hS 0 rfl rfl 0 (by decide) (hts (.fieldLink RX3 9 "ProofBench$Names" "counts" "[I") (by decide +kernel)) (fun _ h9 => h9) rfl hin rfl (by decide +kernel) rfl rfl (Nat.le_of_ble_eq_true rfl) dX3_init_8 (fun H locs hP hD hS => ?_)
  have hP : va_P (dC, dI) vwCl [(h0, .inr (3, [.ref q_1, .null, .null, .null, .null])), (q_1, .inl (cA_2, 5, .inl (fun _ => 0)))] H := hP
  have hD : va_D A [(h0, .inr (3, [.ref q_1, .null, .null, .null, .null])), (q_1, .inl (cA_2, 5, .inl (fun _ => 0)))] := hD
  refine lv_aload_n hx hb dX3_init_11 rfl (lv_at hl 0 rfl) ?_
  refine lv_sipush (v := 200) hx hb dX3_init_12 (by decide) ?_
  refine va_newa (atype := .long) (n := 200) (N' := 200) (ty := .long) (a0 := (200, .inr (.inl (fun _ => 0)))) hx hb (hts (.arrayClass .long) (by decide +kernel)) rfl hK hP hD hS hA (fun _ => rfl) (by decide) (by decide) (by decide) (show 1 + 1 ≤ 6 by omega) (show 5 + 200 ≤ 1208 by omega) dX3_init_15 (fun q_3 cA_4 H hK hP hD hS => ?_)
  have hP : va_P (dC, dI) vwCl [(h0, .inr (3, [.ref q_1, .null, .null, .null, .null])), (q_1, .inl (cA_2, 5, .inl (fun _ => 0))), (q_3, .inl (cA_4, 200, .inr (.inl (fun _ => 0))))] H := hP
  have hD : va_D A [(h0, .inr (3, [.ref q_1, .null, .null, .null, .null])), (q_1, .inl (cA_2, 5, .inl (fun _ => 0))), (q_3, .inl (cA_4, 200, .inr (.inl (fun _ => 0))))] := hD
  have hK : va_K (dC, dI) vwCl [(cA_2, .int), (cA_4, .long)] s := hK
  refine W.widen (k := 2) (n := 205) (by omega) (by omega) ?_
  refine va_putF (D := (dC, dI)) (ci := 3) (v := .ref q_3) (ty := .array .long) (C := RX3) (T := TX3) (N := 5) hx hb hts (by decide +kernel) tyX3 tyX3_ok nmX3 hown hK hP hD hS 0 rfl rfl 1 (by decide) (hts (.fieldLink RX3 15 "ProofBench$Names" "keys" "[J") (by decide +kernel)) (fun _ h9 => h9) rfl hin rfl (by decide +kernel) rfl rfl (Nat.le_of_ble_eq_true rfl) dX3_init_17 (fun H locs hP hD hS => ?_)
  have hP : va_P (dC, dI) vwCl [(h0, .inr (3, [.ref q_1, .ref q_3, .null, .null, .null])), (q_1, .inl (cA_2, 5, .inl (fun _ => 0))), (q_3, .inl (cA_4, 200, .inr (.inl (fun _ => 0))))] H := hP
  have hD : va_D A [(h0, .inr (3, [.ref q_1, .ref q_3, .null, .null, .null])), (q_1, .inl (cA_2, 5, .inl (fun _ => 0))), (q_3, .inl (cA_4, 200, .inr (.inl (fun _ => 0))))] := hD
  refine lv_aload_n hx hb dX3_init_20 rfl (lv_at hl 0 rfl) ?_
  refine lv_sipush (v := 200) hx hb dX3_init_21 (by decide) ?_
  refine va_newa (atype := .int) (n := 200) (N' := 200) (ty := .int) (a0 := (200, .inl (fun _ => 0))) hx hb (hts (.arrayClass .int) (by decide +kernel)) rfl hK hP hD hS hA (fun _ => rfl) (by decide) (by decide) (by decide) (show 2 + 1 ≤ 6 by omega) (show 205 + 200 ≤ 1208 by omega) dX3_init_24 (fun q_5 cA_6 H hK hP hD hS => ?_)
  have hP : va_P (dC, dI) vwCl [(h0, .inr (3, [.ref q_1, .ref q_3, .null, .null, .null])), (q_1, .inl (cA_2, 5, .inl (fun _ => 0))), (q_3, .inl (cA_4, 200, .inr (.inl (fun _ => 0)))), (q_5, .inl (cA_6, 200, .inl (fun _ => 0)))] H := hP
  have hD : va_D A [(h0, .inr (3, [.ref q_1, .ref q_3, .null, .null, .null])), (q_1, .inl (cA_2, 5, .inl (fun _ => 0))), (q_3, .inl (cA_4, 200, .inr (.inl (fun _ => 0)))), (q_5, .inl (cA_6, 200, .inl (fun _ => 0)))] := hD
  have hK : va_K (dC, dI) vwCl [(cA_2, .int), (cA_4, .long), (cA_6, .int)] s := hK
  refine W.widen (k := 3) (n := 405) (by omega) (by omega) ?_
  refine va_putF (D := (dC, dI)) (ci := 3) (v := .ref q_5) (ty := .array .int) (C := RX3) (T := TX3) (N := 5) hx hb hts (by decide +kernel) tyX3 tyX3_ok nmX3 hown hK hP hD hS 0 rfl rfl 2 (by decide) (hts (.fieldLink RX3 19 "ProofBench$Names" "sorts" "[I") (by decide +kernel)) (fun _ h9 => h9) rfl hin rfl (by decide +kernel) rfl rfl (Nat.le_of_ble_eq_true rfl) dX3_init_26 (fun H locs hP hD hS => ?_)
  have hP : va_P (dC, dI) vwCl [(h0, .inr (3, [.ref q_1, .ref q_3, .ref q_5, .null, .null])), (q_1, .inl (cA_2, 5, .inl (fun _ => 0))), (q_3, .inl (cA_4, 200, .inr (.inl (fun _ => 0)))), (q_5, .inl (cA_6, 200, .inl (fun _ => 0)))] H := hP
  have hD : va_D A [(h0, .inr (3, [.ref q_1, .ref q_3, .ref q_5, .null, .null])), (q_1, .inl (cA_2, 5, .inl (fun _ => 0))), (q_3, .inl (cA_4, 200, .inr (.inl (fun _ => 0)))), (q_5, .inl (cA_6, 200, .inl (fun _ => 0)))] := hD
  refine lv_aload_n hx hb dX3_init_29 rfl (lv_at hl 0 rfl) ?_
  refine lv_sipush (v := 200) hx hb dX3_init_30 (by decide) ?_
  refine va_newa (atype := .int) (n := 200) (N' := 200) (ty := .int) (a0 := (200, .inl (fun _ => 0))) hx hb (hts (.arrayClass .int) (by decide +kernel)) rfl hK hP hD hS hA (fun _ => rfl) (by decide) (by decide) (by decide) (show 3 + 1 ≤ 6 by omega) (show 405 + 200 ≤ 1208 by omega) dX3_init_33 (fun q_7 cA_8 H hK hP hD hS => ?_)
  have hP : va_P (dC, dI) vwCl [(h0, .inr (3, [.ref q_1, .ref q_3, .ref q_5, .null, .null])), (q_1, .inl (cA_2, 5, .inl (fun _ => 0))), (q_3, .inl (cA_4, 200, .inr (.inl (fun _ => 0)))), (q_5, .inl (cA_6, 200, .inl (fun _ => 0))), (q_7, .inl (cA_8, 200, .inl (fun _ => 0)))] H := hP
  have hD : va_D A [(h0, .inr (3, [.ref q_1, .ref q_3, .ref q_5, .null, .null])), (q_1, .inl (cA_2, 5, .inl (fun _ => 0))), (q_3, .inl (cA_4, 200, .inr (.inl (fun _ => 0)))), (q_5, .inl (cA_6, 200, .inl (fun _ => 0))), (q_7, .inl (cA_8, 200, .inl (fun _ => 0)))] := hD
  have hK : va_K (dC, dI) vwCl [(cA_2, .int), (cA_4, .long), (cA_6, .int), (cA_8, .int)] s := hK
  refine W.widen (k := 4) (n := 605) (by omega) (by omega) ?_
  refine va_putF (D := (dC, dI)) (ci := 3) (v := .ref q_7) (ty := .array .int) (C := RX3) (T := TX3) (N := 5) hx hb hts (by decide +kernel) tyX3 tyX3_ok nmX3 hown hK hP hD hS 0 rfl rfl 3 (by decide) (hts (.fieldLink RX3 22 "ProofBench$Names" "arities" "[I") (by decide +kernel)) (fun _ h9 => h9) rfl hin rfl (by decide +kernel) rfl rfl (Nat.le_of_ble_eq_true rfl) dX3_init_35 (fun H locs hP hD hS => ?_)
  have hP : va_P (dC, dI) vwCl [(h0, .inr (3, [.ref q_1, .ref q_3, .ref q_5, .ref q_7, .null])), (q_1, .inl (cA_2, 5, .inl (fun _ => 0))), (q_3, .inl (cA_4, 200, .inr (.inl (fun _ => 0)))), (q_5, .inl (cA_6, 200, .inl (fun _ => 0))), (q_7, .inl (cA_8, 200, .inl (fun _ => 0)))] H := hP
  have hD : va_D A [(h0, .inr (3, [.ref q_1, .ref q_3, .ref q_5, .ref q_7, .null])), (q_1, .inl (cA_2, 5, .inl (fun _ => 0))), (q_3, .inl (cA_4, 200, .inr (.inl (fun _ => 0)))), (q_5, .inl (cA_6, 200, .inl (fun _ => 0))), (q_7, .inl (cA_8, 200, .inl (fun _ => 0)))] := hD
  refine lv_aload_n hx hb dX3_init_38 rfl (lv_at hl 0 rfl) ?_
  refine lv_sipush (v := 600) hx hb dX3_init_39 (by decide) ?_
  refine va_newa (atype := .int) (n := 600) (N' := 600) (ty := .int) (a0 := (600, .inl (fun _ => 0))) hx hb (hts (.arrayClass .int) (by decide +kernel)) rfl hK hP hD hS hA (fun _ => rfl) (by decide) (by decide) (by decide) (show 4 + 1 ≤ 6 by omega) (show 605 + 600 ≤ 1208 by omega) dX3_init_42 (fun q_9 cA_10 H hK hP hD hS => ?_)
  have hP : va_P (dC, dI) vwCl [(h0, .inr (3, [.ref q_1, .ref q_3, .ref q_5, .ref q_7, .null])), (q_1, .inl (cA_2, 5, .inl (fun _ => 0))), (q_3, .inl (cA_4, 200, .inr (.inl (fun _ => 0)))), (q_5, .inl (cA_6, 200, .inl (fun _ => 0))), (q_7, .inl (cA_8, 200, .inl (fun _ => 0))), (q_9, .inl (cA_10, 600, .inl (fun _ => 0)))] H := hP
  have hD : va_D A [(h0, .inr (3, [.ref q_1, .ref q_3, .ref q_5, .ref q_7, .null])), (q_1, .inl (cA_2, 5, .inl (fun _ => 0))), (q_3, .inl (cA_4, 200, .inr (.inl (fun _ => 0)))), (q_5, .inl (cA_6, 200, .inl (fun _ => 0))), (q_7, .inl (cA_8, 200, .inl (fun _ => 0))), (q_9, .inl (cA_10, 600, .inl (fun _ => 0)))] := hD
  have hK : va_K (dC, dI) vwCl [(cA_2, .int), (cA_4, .long), (cA_6, .int), (cA_8, .int), (cA_10, .int)] s := hK
  refine W.widen (k := 5) (n := 1205) (by omega) (by omega) ?_
  refine va_putF (D := (dC, dI)) (ci := 3) (v := .ref q_9) (ty := .array .int) (C := RX3) (T := TX3) (N := 5) hx hb hts (by decide +kernel) tyX3 tyX3_ok nmX3 hown hK hP hD hS 0 rfl rfl 4 (by decide) (hts (.fieldLink RX3 25 "ProofBench$Names" "parts" "[I") (by decide +kernel)) (fun _ h9 => h9) rfl hin rfl (by decide +kernel) rfl rfl (Nat.le_of_ble_eq_true rfl) dX3_init_44 (fun H locs hP hD hS => ?_)
  have hP : va_P (dC, dI) vwCl [(h0, .inr (3, [.ref q_1, .ref q_3, .ref q_5, .ref q_7, .ref q_9])), (q_1, .inl (cA_2, 5, .inl (fun _ => 0))), (q_3, .inl (cA_4, 200, .inr (.inl (fun _ => 0)))), (q_5, .inl (cA_6, 200, .inl (fun _ => 0))), (q_7, .inl (cA_8, 200, .inl (fun _ => 0))), (q_9, .inl (cA_10, 600, .inl (fun _ => 0)))] H := hP
  have hD : va_D A [(h0, .inr (3, [.ref q_1, .ref q_3, .ref q_5, .ref q_7, .ref q_9])), (q_1, .inl (cA_2, 5, .inl (fun _ => 0))), (q_3, .inl (cA_4, 200, .inr (.inl (fun _ => 0)))), (q_5, .inl (cA_6, 200, .inl (fun _ => 0))), (q_7, .inl (cA_8, 200, .inl (fun _ => 0))), (q_9, .inl (cA_10, 600, .inl (fun _ => 0)))] := hD
  refine lv_iconst (v := 3) hx hb dX3_init_47 (by decide) ?_
  refine va_newa (atype := .int) (n := 3) (N' := 3) (ty := .int) (a0 := (3, .inl (fun _ => 0))) hx hb (hts (.arrayClass .int) (by decide +kernel)) rfl hK hP hD hS hA (fun _ => rfl) (by decide) (by decide) (by decide) (show 5 + 1 ≤ 6 by omega) (show 1205 + 3 ≤ 1208 by omega) dX3_init_48 (fun q_11 cA_12 H hK hP hD hS => ?_)
  have hP : va_P (dC, dI) vwCl [(h0, .inr (3, [.ref q_1, .ref q_3, .ref q_5, .ref q_7, .ref q_9])), (q_1, .inl (cA_2, 5, .inl (fun _ => 0))), (q_3, .inl (cA_4, 200, .inr (.inl (fun _ => 0)))), (q_5, .inl (cA_6, 200, .inl (fun _ => 0))), (q_7, .inl (cA_8, 200, .inl (fun _ => 0))), (q_9, .inl (cA_10, 600, .inl (fun _ => 0))), (q_11, .inl (cA_12, 3, .inl (fun _ => 0)))] H := hP
  have hD : va_D A [(h0, .inr (3, [.ref q_1, .ref q_3, .ref q_5, .ref q_7, .ref q_9])), (q_1, .inl (cA_2, 5, .inl (fun _ => 0))), (q_3, .inl (cA_4, 200, .inr (.inl (fun _ => 0)))), (q_5, .inl (cA_6, 200, .inl (fun _ => 0))), (q_7, .inl (cA_8, 200, .inl (fun _ => 0))), (q_9, .inl (cA_10, 600, .inl (fun _ => 0))), (q_11, .inl (cA_12, 3, .inl (fun _ => 0)))] := hD
  have hK : va_K (dC, dI) vwCl [(cA_2, .int), (cA_4, .long), (cA_6, .int), (cA_8, .int), (cA_10, .int), (cA_12, .int)] s := hK
  refine W.widen (k := 6) (n := 1208) (by omega) (by omega) ?_
  refine lv_astore_n (lv' := [(1, .ref q_11), (0, .ref h0)]) hx hb dX3_init_50 rfl hl (by decide) rfl (fun ls hl => ?_)
  refine lv_aload_n hx hb dX3_init_51 rfl (lv_at hl 1 rfl) ?_
  refine lv_iconst (v := 0) hx hb dX3_init_52 (by decide) ?_
  refine va_ldcS hx hb hown hR1 dX3_init_53 ?_
  have hPc := hP.sub (ws' := []) [] rfl
  have hDc := hD.sub (ws' := []) [] (by decide) rfl
  have hKc := hK.sub (tys' := []) [] rfl
  have hFc := va_free (wc := []) hD hS hA [] rfl
  refine va_calll (va_runS (As := [.ref b1]) (rest := [.int 0, .ref h0]) ⟨hx, hb, hml, hown, hts⟩ (c_keyOf l dC dI H.size b1 v1 n1 f1 hn1) (va_cwS 1 hts gX3_init_X3_keyOf rfl rfl rfl (by decide +kernel) ⟨Nat.le_of_ble_eq_true rfl, Nat.le_of_ble_eq_true rfl⟩) ⟨fun a U g mk q => by obtain ⟨q0, q1, qP, qK, qD, qE0⟩ := q; exact ⟨q0, q1, qP, va_K.moved (u := U) (U := U.calling g mk a) (Vm.Alike.refl U.vm) qK, qD, st_S.moved (u := U) (U := U.calling g mk a) (Vm.Alike.refl U.vm) qE0⟩, fun U hU hW => ⟨rfl, by rw [hU], by rw [hU]; exact hPc, va_K.moved hW.alike hKc, hDc.weaken (fun _ _ _ _ => trivial), by rw [hU]; exact st_S.moved hW.alike ((hst1.kept hS.2.1).narrow hFc)⟩⟩ rfl rfl hl.1 rfl (lv_room (Nat.le_of_ble_eq_true rfl)) dX3_init_55 ⟨(show 6 + 0 ≤ 6 by omega), (show 1208 + 0 ≤ 1208 by omega)⟩) hS (fun q _ h => hFc q h) hFc (fun y_13 u t H1 locs ht hvm hw hB hz1 hk1 hS => ?_)
  obtain ⟨hP1, hK1, hD1⟩ := hB
  rw [ht] at hP1
  have hK1 := va_K.moved hvm.symm hK1
  obtain ⟨hP, hD⟩ := va_join (wr := [(h0, .inr (3, [.ref q_1, .ref q_3, .ref q_5, .ref q_7, .ref q_9])), (q_1, .inl (cA_2, 5, .inl (fun _ => 0))), (q_3, .inl (cA_4, 200, .inr (.inl (fun _ => 0)))), (q_5, .inl (cA_6, 200, .inl (fun _ => 0))), (q_7, .inl (cA_8, 200, .inl (fun _ => 0))), (q_9, .inl (cA_10, 600, .inl (fun _ => 0))), (q_11, .inl (cA_12, 3, .inl (fun _ => 0)))]) (w1 := []) hP hD [] [0, 1, 2, 3, 4, 5, 6] rfl rfl (by decide) (by decide) hk1 hFc hP1 hD1
  have hK := (hK.sub (tys' := [(cA_2, .int), (cA_4, .long), (cA_6, .int), (cA_8, .int), (cA_10, .int), (cA_12, .int)]) [0, 1, 2, 3, 4, 5] rfl).app hK1
  generalize H1 = H at hP hS ⊢
  have hP : va_P (dC, dI) vwCl [(h0, .inr (3, [.ref q_1, .ref q_3, .ref q_5, .ref q_7, .ref q_9])), (q_1, .inl (cA_2, 5, .inl (fun _ => 0))), (q_3, .inl (cA_4, 200, .inr (.inl (fun _ => 0)))), (q_5, .inl (cA_6, 200, .inl (fun _ => 0))), (q_7, .inl (cA_8, 200, .inl (fun _ => 0))), (q_9, .inl (cA_10, 600, .inl (fun _ => 0))), (q_11, .inl (cA_12, 3, .inl (fun _ => 0)))] H := hP
  have hD : va_D A [(h0, .inr (3, [.ref q_1, .ref q_3, .ref q_5, .ref q_7, .ref q_9])), (q_1, .inl (cA_2, 5, .inl (fun _ => 0))), (q_3, .inl (cA_4, 200, .inr (.inl (fun _ => 0)))), (q_5, .inl (cA_6, 200, .inl (fun _ => 0))), (q_7, .inl (cA_8, 200, .inl (fun _ => 0))), (q_9, .inl (cA_10, 600, .inl (fun _ => 0))), (q_11, .inl (cA_12, 3, .inl (fun _ => 0)))] := hD
  have hK : va_K (dC, dI) vwCl [(cA_2, .int), (cA_4, .long), (cA_6, .int), (cA_8, .int), (cA_10, .int), (cA_12, .int)] s := hK
  refine W.widen (k := 6) (n := 1208) (by omega) (by omega) ?_
  refine lv_iconst (v := 0) hx hb dX3_init_58 (by decide) ?_
  refine lv_aload_n hx hb dX3_init_59 rfl (lv_at hl 0 rfl) ?_
  refine lv_iconst (v := 0) hx hb dX3_init_60 (by decide) ?_
  have hPc := hP.sub (ws' := [(h0, .inr (3, [.ref q_1, .ref q_3, .ref q_5, .ref q_7, .ref q_9])), (q_1, .inl (cA_2, 5, .inl (fun _ => 0))), (q_3, .inl (cA_4, 200, .inr (.inl (fun _ => 0)))), (q_5, .inl (cA_6, 200, .inl (fun _ => 0))), (q_7, .inl (cA_8, 200, .inl (fun _ => 0))), (q_9, .inl (cA_10, 600, .inl (fun _ => 0))), (q_11, .inl (cA_12, 3, .inl (fun _ => 0)))]) [0, 1, 2, 3, 4, 5, 6] rfl
  have hDc := hD.sub (ws' := [(h0, .inr (3, [.ref q_1, .ref q_3, .ref q_5, .ref q_7, .ref q_9])), (q_1, .inl (cA_2, 5, .inl (fun _ => 0))), (q_3, .inl (cA_4, 200, .inr (.inl (fun _ => 0)))), (q_5, .inl (cA_6, 200, .inl (fun _ => 0))), (q_7, .inl (cA_8, 200, .inl (fun _ => 0))), (q_9, .inl (cA_10, 600, .inl (fun _ => 0))), (q_11, .inl (cA_12, 3, .inl (fun _ => 0)))]) [0, 1, 2, 3, 4, 5, 6] (by decide) rfl
  have hKc := hK.sub (tys' := [(cA_2, .int), (cA_4, .long), (cA_6, .int), (cA_8, .int), (cA_10, .int), (cA_12, .int)]) [0, 1, 2, 3, 4, 5] rfl
  have hFc := va_free (wc := [(h0, .inr (3, [.ref q_1, .ref q_3, .ref q_5, .ref q_7, .ref q_9])), (q_1, .inl (cA_2, 5, .inl (fun _ => 0))), (q_3, .inl (cA_4, 200, .inr (.inl (fun _ => 0)))), (q_5, .inl (cA_6, 200, .inl (fun _ => 0))), (q_7, .inl (cA_8, 200, .inl (fun _ => 0))), (q_9, .inl (cA_10, 600, .inl (fun _ => 0))), (q_11, .inl (cA_12, 3, .inl (fun _ => 0)))]) hD hS hA [0, 1, 2, 3, 4, 5, 6] rfl
  refine va_calli (va_runV (As := [.int 0, .long y_13, .int 0, .ref q_11, .int 0]) (rest := []) ⟨hx, hb, hml, hown, hts⟩ (c_tell_0 l dC dI H.size h0 q_1 q_3 q_5 q_7 q_9 q_11 cA_2 cA_4 cA_6 cA_8 cA_10 cA_12 (fun _ => 0) (fun _ => 0) (fun _ => 0) (fun _ => 0) (fun _ => 0) (fun _ => 0) y_13 rfl rfl rfl) (cwV 5 hts gX3_init_X3_tell rfl rfl rfl (by decide +kernel) ⟨Nat.le_of_ble_eq_true rfl, Nat.le_of_ble_eq_true rfl⟩) ⟨fun a U g mk q => by obtain ⟨q0, q1, qP, qK, qD⟩ := q; exact ⟨q0, q1, qP, va_K.moved (u := U) (U := U.calling g mk a) (Vm.Alike.refl U.vm) qK, qD⟩, va_recv hKc hPc (ci := 3) (q0 := 0) rfl rfl, fun U hU hW => ⟨rfl, by rw [hU], by rw [hU]; exact hPc, va_K.moved hW.alike hKc, hDc.weaken (fun _ _ _ _ => trivial)⟩⟩ rfl rfl hl.1 rfl (lv_room (Nat.le_of_ble_eq_true rfl)) dX3_init_61 ⟨(show 6 + 0 ≤ 6 by omega), (show 1208 + 0 ≤ 1208 by omega)⟩) hS (fun q _ h => hFc q h) hFc (fun r_18 u t H1 locs ht hvm hw hB hz1 hk1 hS => ?_)
  obtain ⟨f_17, f_14, f_15, f_16, hP1, hK1, hD1, hg4, hg2⟩ := hB
  rw [ht] at hP1
  have hK1 := va_K.moved hvm.symm hK1
  obtain ⟨hP, hD⟩ := va_join (wr := []) (w1 := [(h0, .inr (3, [.ref q_1, .ref q_3, .ref q_5, .ref q_7, .ref q_9])), (q_1, .inl (cA_2, 5, .inl (f_17))), (q_3, .inl (cA_4, 200, .inr (.inl (f_14)))), (q_5, .inl (cA_6, 200, .inl (f_15))), (q_7, .inl (cA_8, 200, .inl (f_16))), (q_9, .inl (cA_10, 600, .inl (fun _ => 0))), (q_11, .inl (cA_12, 3, .inl (fun _ => 0)))]) hP hD [0, 1, 2, 3, 4, 5, 6] [] rfl rfl (by decide) (by decide) hk1 hFc hP1 hD1
  have hK := (hK.sub (tys' := [(cA_2, .int), (cA_4, .long), (cA_6, .int), (cA_8, .int), (cA_10, .int), (cA_12, .int)]) [0, 1, 2, 3, 4, 5] rfl).app hK1
  generalize H1 = H at hP hS ⊢
  have hP : va_P (dC, dI) vwCl [(h0, .inr (3, [.ref q_1, .ref q_3, .ref q_5, .ref q_7, .ref q_9])), (q_1, .inl (cA_2, 5, .inl (f_17))), (q_3, .inl (cA_4, 200, .inr (.inl (f_14)))), (q_5, .inl (cA_6, 200, .inl (f_15))), (q_7, .inl (cA_8, 200, .inl (f_16))), (q_9, .inl (cA_10, 600, .inl (fun _ => 0))), (q_11, .inl (cA_12, 3, .inl (fun _ => 0)))] H := hP
  have hD : va_D A [(h0, .inr (3, [.ref q_1, .ref q_3, .ref q_5, .ref q_7, .ref q_9])), (q_1, .inl (cA_2, 5, .inl (f_17))), (q_3, .inl (cA_4, 200, .inr (.inl (f_14)))), (q_5, .inl (cA_6, 200, .inl (f_15))), (q_7, .inl (cA_8, 200, .inl (f_16))), (q_9, .inl (cA_10, 600, .inl (fun _ => 0))), (q_11, .inl (cA_12, 3, .inl (fun _ => 0)))] := hD
  have hK : va_K (dC, dI) vwCl [(cA_2, .int), (cA_4, .long), (cA_6, .int), (cA_8, .int), (cA_10, .int), (cA_12, .int), (cA_2, .int), (cA_4, .long), (cA_6, .int), (cA_8, .int), (cA_10, .int), (cA_12, .int)] s := hK
  refine W.widen (k := 6) (n := 1208) (by omega) (by omega) ?_
  refine lv_pop hx hb dX3_init_64 rfl ?_
  refine lv_aload_n hx hb dX3_init_65 rfl (lv_at hl 1 rfl) ?_
  refine lv_iconst (v := 2) hx hb dX3_init_66 (by decide) ?_
  refine va_ldcS hx hb hown hR2 dX3_init_67 ?_
  have hPc := hP.sub (ws' := []) [] rfl
  have hDc := hD.sub (ws' := []) [] (by decide) rfl
  have hKc := hK.sub (tys' := []) [] rfl
  have hFc := va_free (wc := []) hD hS hA [] rfl
  refine va_calll (va_runS (As := [.ref b2]) (rest := [.int 2, .ref h0]) ⟨hx, hb, hml, hown, hts⟩ (c_keyOf l dC dI H.size b2 v2 n2 f2 hn2) (va_cwS 1 hts gX3_init_X3_keyOf rfl rfl rfl (by decide +kernel) ⟨Nat.le_of_ble_eq_true rfl, Nat.le_of_ble_eq_true rfl⟩) ⟨fun a U g mk q => by obtain ⟨q0, q1, qP, qK, qD, qE0⟩ := q; exact ⟨q0, q1, qP, va_K.moved (u := U) (U := U.calling g mk a) (Vm.Alike.refl U.vm) qK, qD, st_S.moved (u := U) (U := U.calling g mk a) (Vm.Alike.refl U.vm) qE0⟩, fun U hU hW => ⟨rfl, by rw [hU], by rw [hU]; exact hPc, va_K.moved hW.alike hKc, hDc.weaken (fun _ _ _ _ => trivial), by rw [hU]; exact st_S.moved hW.alike ((hst2.kept hS.2.1).narrow hFc)⟩⟩ rfl rfl hl.1 rfl (lv_room (Nat.le_of_ble_eq_true rfl)) dX3_init_69 ⟨(show 6 + 0 ≤ 6 by omega), (show 1208 + 0 ≤ 1208 by omega)⟩) hS (fun q _ h => hFc q h) hFc (fun y_19 u t H1 locs ht hvm hw hB hz1 hk1 hS => ?_)
  obtain ⟨hP1, hK1, hD1⟩ := hB
  rw [ht] at hP1
  have hK1 := va_K.moved hvm.symm hK1
  obtain ⟨hP, hD⟩ := va_join (wr := [(h0, .inr (3, [.ref q_1, .ref q_3, .ref q_5, .ref q_7, .ref q_9])), (q_1, .inl (cA_2, 5, .inl (f_17))), (q_3, .inl (cA_4, 200, .inr (.inl (f_14)))), (q_5, .inl (cA_6, 200, .inl (f_15))), (q_7, .inl (cA_8, 200, .inl (f_16))), (q_9, .inl (cA_10, 600, .inl (fun _ => 0))), (q_11, .inl (cA_12, 3, .inl (fun _ => 0)))]) (w1 := []) hP hD [] [0, 1, 2, 3, 4, 5, 6] rfl rfl (by decide) (by decide) hk1 hFc hP1 hD1
  have hK := (hK.sub (tys' := [(cA_2, .int), (cA_4, .long), (cA_6, .int), (cA_8, .int), (cA_10, .int), (cA_12, .int), (cA_2, .int), (cA_4, .long), (cA_6, .int), (cA_8, .int), (cA_10, .int), (cA_12, .int)]) [0, 1, 2, 3, 4, 5, 6, 7, 8, 9, 10, 11] rfl).app hK1
  generalize H1 = H at hP hS ⊢
  have hP : va_P (dC, dI) vwCl [(h0, .inr (3, [.ref q_1, .ref q_3, .ref q_5, .ref q_7, .ref q_9])), (q_1, .inl (cA_2, 5, .inl (f_17))), (q_3, .inl (cA_4, 200, .inr (.inl (f_14)))), (q_5, .inl (cA_6, 200, .inl (f_15))), (q_7, .inl (cA_8, 200, .inl (f_16))), (q_9, .inl (cA_10, 600, .inl (fun _ => 0))), (q_11, .inl (cA_12, 3, .inl (fun _ => 0)))] H := hP
  have hD : va_D A [(h0, .inr (3, [.ref q_1, .ref q_3, .ref q_5, .ref q_7, .ref q_9])), (q_1, .inl (cA_2, 5, .inl (f_17))), (q_3, .inl (cA_4, 200, .inr (.inl (f_14)))), (q_5, .inl (cA_6, 200, .inl (f_15))), (q_7, .inl (cA_8, 200, .inl (f_16))), (q_9, .inl (cA_10, 600, .inl (fun _ => 0))), (q_11, .inl (cA_12, 3, .inl (fun _ => 0)))] := hD
  have hK : va_K (dC, dI) vwCl [(cA_2, .int), (cA_4, .long), (cA_6, .int), (cA_8, .int), (cA_10, .int), (cA_12, .int), (cA_2, .int), (cA_4, .long), (cA_6, .int), (cA_8, .int), (cA_10, .int), (cA_12, .int)] s := hK
  refine W.widen (k := 6) (n := 1208) (by omega) (by omega) ?_
  refine lv_iconst (v := 0) hx hb dX3_init_72 (by decide) ?_
  refine lv_aload_n hx hb dX3_init_73 rfl (lv_at hl 0 rfl) ?_
  refine lv_iconst (v := 1) hx hb dX3_init_74 (by decide) ?_
  have hPc := hP.sub (ws' := [(h0, .inr (3, [.ref q_1, .ref q_3, .ref q_5, .ref q_7, .ref q_9])), (q_1, .inl (cA_2, 5, .inl (f_17))), (q_3, .inl (cA_4, 200, .inr (.inl (f_14)))), (q_5, .inl (cA_6, 200, .inl (f_15))), (q_7, .inl (cA_8, 200, .inl (f_16))), (q_9, .inl (cA_10, 600, .inl (fun _ => 0))), (q_11, .inl (cA_12, 3, .inl (fun _ => 0)))]) [0, 1, 2, 3, 4, 5, 6] rfl
  have hDc := hD.sub (ws' := [(h0, .inr (3, [.ref q_1, .ref q_3, .ref q_5, .ref q_7, .ref q_9])), (q_1, .inl (cA_2, 5, .inl (f_17))), (q_3, .inl (cA_4, 200, .inr (.inl (f_14)))), (q_5, .inl (cA_6, 200, .inl (f_15))), (q_7, .inl (cA_8, 200, .inl (f_16))), (q_9, .inl (cA_10, 600, .inl (fun _ => 0))), (q_11, .inl (cA_12, 3, .inl (fun _ => 0)))]) [0, 1, 2, 3, 4, 5, 6] (by decide) rfl
  have hKc := hK.sub (tys' := [(cA_2, .int), (cA_4, .long), (cA_6, .int), (cA_8, .int), (cA_10, .int), (cA_12, .int)]) [0, 1, 2, 3, 4, 5] rfl
  have hFc := va_free (wc := [(h0, .inr (3, [.ref q_1, .ref q_3, .ref q_5, .ref q_7, .ref q_9])), (q_1, .inl (cA_2, 5, .inl (f_17))), (q_3, .inl (cA_4, 200, .inr (.inl (f_14)))), (q_5, .inl (cA_6, 200, .inl (f_15))), (q_7, .inl (cA_8, 200, .inl (f_16))), (q_9, .inl (cA_10, 600, .inl (fun _ => 0))), (q_11, .inl (cA_12, 3, .inl (fun _ => 0)))]) hD hS hA [0, 1, 2, 3, 4, 5, 6] rfl
  refine va_calli (va_runV (As := [.int 2, .long y_19, .int 0, .ref q_11, .int 1]) (rest := []) ⟨hx, hb, hml, hown, hts⟩ (c_tell_2 l dC dI H.size h0 q_1 q_3 q_5 q_7 q_9 q_11 cA_2 cA_4 cA_6 cA_8 cA_10 cA_12 (f_17) (f_14) (f_15) (f_16) (fun _ => 0) (fun _ => 0) y_19 hg2 hg4) (cwV 5 hts gX3_init_X3_tell rfl rfl rfl (by decide +kernel) ⟨Nat.le_of_ble_eq_true rfl, Nat.le_of_ble_eq_true rfl⟩) ⟨fun a U g mk q => by obtain ⟨q0, q1, qP, qK, qD⟩ := q; exact ⟨q0, q1, qP, va_K.moved (u := U) (U := U.calling g mk a) (Vm.Alike.refl U.vm) qK, qD⟩, va_recv hKc hPc (ci := 3) (q0 := 0) rfl rfl, fun U hU hW => ⟨rfl, by rw [hU], by rw [hU]; exact hPc, va_K.moved hW.alike hKc, hDc.weaken (fun _ _ _ _ => trivial)⟩⟩ rfl rfl hl.1 rfl (lv_room (Nat.le_of_ble_eq_true rfl)) dX3_init_75 ⟨(show 6 + 0 ≤ 6 by omega), (show 1208 + 0 ≤ 1208 by omega)⟩) hS (fun q _ h => hFc q h) hFc (fun r_25 u t H1 locs ht hvm hw hB hz1 hk1 hS => ?_)
  obtain ⟨f_24, f_20, f_21, f_22, f_23, hP1, hK1, hD1, hg4⟩ := hB
  rw [ht] at hP1
  have hK1 := va_K.moved hvm.symm hK1
  obtain ⟨hP, hD⟩ := va_join (wr := []) (w1 := [(h0, .inr (3, [.ref q_1, .ref q_3, .ref q_5, .ref q_7, .ref q_9])), (q_1, .inl (cA_2, 5, .inl (f_24))), (q_3, .inl (cA_4, 200, .inr (.inl (f_20)))), (q_5, .inl (cA_6, 200, .inl (f_21))), (q_7, .inl (cA_8, 200, .inl (f_22))), (q_9, .inl (cA_10, 600, .inl (f_23))), (q_11, .inl (cA_12, 3, .inl (fun _ => 0)))]) hP hD [0, 1, 2, 3, 4, 5, 6] [] rfl rfl (by decide) (by decide) hk1 hFc hP1 hD1
  have hK := (hK.sub (tys' := [(cA_2, .int), (cA_4, .long), (cA_6, .int), (cA_8, .int), (cA_10, .int), (cA_12, .int), (cA_2, .int), (cA_4, .long), (cA_6, .int), (cA_8, .int), (cA_10, .int), (cA_12, .int)]) [0, 1, 2, 3, 4, 5, 6, 7, 8, 9, 10, 11] rfl).app hK1
  generalize H1 = H at hP hS ⊢
  have hP : va_P (dC, dI) vwCl [(h0, .inr (3, [.ref q_1, .ref q_3, .ref q_5, .ref q_7, .ref q_9])), (q_1, .inl (cA_2, 5, .inl (f_24))), (q_3, .inl (cA_4, 200, .inr (.inl (f_20)))), (q_5, .inl (cA_6, 200, .inl (f_21))), (q_7, .inl (cA_8, 200, .inl (f_22))), (q_9, .inl (cA_10, 600, .inl (f_23))), (q_11, .inl (cA_12, 3, .inl (fun _ => 0)))] H := hP
  have hD : va_D A [(h0, .inr (3, [.ref q_1, .ref q_3, .ref q_5, .ref q_7, .ref q_9])), (q_1, .inl (cA_2, 5, .inl (f_24))), (q_3, .inl (cA_4, 200, .inr (.inl (f_20)))), (q_5, .inl (cA_6, 200, .inl (f_21))), (q_7, .inl (cA_8, 200, .inl (f_22))), (q_9, .inl (cA_10, 600, .inl (f_23))), (q_11, .inl (cA_12, 3, .inl (fun _ => 0)))] := hD
  have hK : va_K (dC, dI) vwCl [(cA_2, .int), (cA_4, .long), (cA_6, .int), (cA_8, .int), (cA_10, .int), (cA_12, .int), (cA_2, .int), (cA_4, .long), (cA_6, .int), (cA_8, .int), (cA_10, .int), (cA_12, .int), (cA_2, .int), (cA_4, .long), (cA_6, .int), (cA_8, .int), (cA_10, .int), (cA_12, .int)] s := hK
  refine W.widen (k := 6) (n := 1208) (by omega) (by omega) ?_
  refine lv_pop hx hb dX3_init_78 rfl ?_
  have hP9 := hP.sub (ws' := [(h0, .inr (3, [.ref q_1, .ref q_3, .ref q_5, .ref q_7, .ref q_9])), (q_1, .inl (cA_2, 5, .inl (f_24)))]) [0, 1] rfl
  have hD9 := hD.sub (ws' := [(h0, .inr (3, [.ref q_1, .ref q_3, .ref q_5, .ref q_7, .ref q_9])), (q_1, .inl (cA_2, 5, .inl (f_24)))]) [0, 1] (by decide) rfl
  have hK9 := hK.sub (tys' := [(cA_2, .int)]) [0] rfl
  refine W.widen (k := 6) (n := 1208) (by omega) (by omega) ?_
  exact W.vret hx hb hr (fun t ht hW => ⟨⟨(), rfl, trivial, q_1, q_3, q_5, q_7, q_9, cA_2, f_24, by rw [ht]; exact hP9, va_K.moved hW.alike hK9, hD9, hg4⟩, hS.F ht⟩) hS.2.2 dX3_init_79
set_option maxHeartbeats 1000000 in
set_option maxRecDepth 100000 in
theorem lp_tapeIn {p : Program} {l : Launch} {e : Env} {s : State} {m : MethodId} {args : Array Value} {below : List Frame} {meth : Method} {c : Code} {Q : State → Prop} {dC : Nat → ClassId} {dI : Nat → Nat → Nat} {A : Nat → Prop} {h0 a1 a2 a3 a4 a5 a6 b v n : Nat} {f : Nat → Int32} {cA1 cA2 cA3 cA4 cA5 : ClassId} (hn : n < 2 ^ 30) (hx : p.tables.exec = Jvm.exec) (hb : c.code = cX9_init) (hml : c.maxLocals = 3) (hown : s.vm.findClass RX9 = some m.cls) (hts : ∀ w ∈ wsX9_init, w.before args s = true) (hA : ∀ q : Nat, s.heap.size ≤ q → A q) (hR : vk_R RX9 32 "SORT a;FUN aSs;REL aS;VAR as;AXIOM aF;DEFINE aVF;PROOF ;THEOREM a;SHOW p;FROM pk;TELL t;ALIKE XX;PUT FvU;SIZE sz;ZERO o;VALUE fKw;HOLDS rK;LACKS rK;JUDGE F;ASSUME F;BOTH pp;LEFT p;RIGHT p;FIRST pF;SECOND pF;CASE ppp;APPLY pp;DISCHARGE pF;GENERALISE pv;SPECIALISE pT;WITNESS pTF;OPEN ppv;SAME T;REPLACE ppvF;ABSURD pF;INDUCTION ppiF;COUNT c;USE t;SEARCH F*;" b s) (hst : st_S b v n f A s s.heap) (hK : va_K (dC, dI) vwCl [(cA1, .byte), (cA2, .int), (cA3, .int), (cA4, .long), (cA5, .int)] s) {k M : Nat} {g : Nat → Int32} (hM : n ≤ M) (hM2 : M < 2 ^ 31) (hexit : ∀ (j : Nat) (H : Heap) (locs : List Loc) (ls : Array Slot), j ≤ M → va_P (dC, dI) vwCl [(h0, .inr (9, [.ref a1, .ref a2, .ref a3, .ref a4, .ref a5, .ref a6, .int 0, .int 0, .int 0, .int 0, .int 0])), (a1, .inl (cA1, 4000, .inl (fun _ => 0))), (a2, .inl (cA2, 4002, .inl (fun _ => 0))), (a3, .inl (cA3, 4002, .inl (fun _ => 0))), (a4, .inl (cA4, 4002, .inr (.inl (fun _ => 0)))), (a5, .inl (cA5, 39, .inl (g)))] H → va_D A [(h0, .inr (9, [.ref a1, .ref a2, .ref a3, .ref a4, .ref a5, .ref a6, .int 0, .int 0, .int 0, .int 0, .int 0])), (a1, .inl (cA1, 4000, .inl (fun _ => 0))), (a2, .inl (cA2, 4002, .inl (fun _ => 0))), (a3, .inl (cA3, 4002, .inl (fun _ => 0))), (a4, .inl (cA4, 4002, .inr (.inl (fun _ => 0)))), (a5, .inl (cA5, 39, .inl (g)))] → va_S A s.heap H locs → lv_has ls 3 [(0, .ref h0), (1, .int (nI j)), (2, .int (nI k))] → W p l e ({ frames := 4, cells := 6, slots := 16049, locals := 85 } : Room) s m args below meth c H locs 6 16049 Q (F0 m 98 ls [])) : ∀ (d j : Nat), n ≤ j + d → j ≤ M → ∀ (H : Heap) (locs : List Loc) (ls : Array Slot), va_P (dC, dI) vwCl [(h0, .inr (9, [.ref a1, .ref a2, .ref a3, .ref a4, .ref a5, .ref a6, .int 0, .int 0, .int 0, .int 0, .int 0])), (a1, .inl (cA1, 4000, .inl (fun _ => 0))), (a2, .inl (cA2, 4002, .inl (fun _ => 0))), (a3, .inl (cA3, 4002, .inl (fun _ => 0))), (a4, .inl (cA4, 4002, .inr (.inl (fun _ => 0)))), (a5, .inl (cA5, 39, .inl (g)))] H → va_D A [(h0, .inr (9, [.ref a1, .ref a2, .ref a3, .ref a4, .ref a5, .ref a6, .int 0, .int 0, .int 0, .int 0, .int 0])), (a1, .inl (cA1, 4000, .inl (fun _ => 0))), (a2, .inl (cA2, 4002, .inl (fun _ => 0))), (a3, .inl (cA3, 4002, .inl (fun _ => 0))), (a4, .inl (cA4, 4002, .inr (.inl (fun _ => 0)))), (a5, .inl (cA5, 39, .inl (g)))] → va_S A s.heap H locs → lv_has ls 3 [(0, .ref h0), (1, .int (nI j)), (2, .int (nI k))] → W p l e ({ frames := 4, cells := 6, slots := 16049, locals := 85 } : Room) s m args below meth c H locs 6 16049 Q (F0 m 72 ls []) := by
  intro d
  induction d with
  | zero =>
    intro j hj hjM H locs ls hP hD hS hl
    refine lv_iload_n hx hb dX9_init_72 rfl (lv_at hl 1 rfl) ?_
    refine va_ldcS hx hb hown hR dX9_init_73 ?_
    have hPc := hP.sub (ws' := []) [] rfl
    have hDc := hD.sub (ws' := []) [] (by decide) rfl
    have hKc := hK.sub (tys' := []) [] rfl
    have hFc := va_free (wc := []) hD hS hA [] rfl
    refine va_calli (va_runV (As := []) (rest := [.int (nI j)]) ⟨hx, hb, hml, hown, hts⟩ (c_length l dC dI H.size b v n f) (cwV 0 hts gX9_init_J0_length_8abf5 rfl rfl rfl (by decide +kernel) ⟨Nat.le_of_ble_eq_true rfl, Nat.le_of_ble_eq_true rfl⟩) ⟨fun a U g mk q => by obtain ⟨q0, q1, qP, qK, qD, qE0⟩ := q; exact ⟨q0, q1, qP, va_K.moved (u := U) (U := U.calling g mk a) (Vm.Alike.refl U.vm) qK, qD, st_S.moved (u := U) (U := U.calling g mk a) (Vm.Alike.refl U.vm) qE0⟩, hst.recv hS, fun U hU hW => ⟨rfl, by rw [hU], by rw [hU]; exact hPc, va_K.moved hW.alike hKc, hDc.weaken (fun _ _ _ _ => trivial), by rw [hU]; exact st_S.moved hW.alike ((hst.kept hS.2.1).narrow hFc)⟩⟩ rfl rfl hl.1 rfl (lv_room (Nat.le_of_ble_eq_true rfl)) dX9_init_75 ⟨(show 6 + 0 ≤ 6 by omega), (show 16049 + 0 ≤ 16049 by omega)⟩) hS (fun q _ h => hFc q h) hFc (fun r0 u t H1 locs ht hvm hw hB hz1 hk1 hS => ?_)
    obtain ⟨hP1, hK1, hD1⟩ := hB
    rw [ht] at hP1
    have hK1 := va_K.moved hvm.symm hK1
    obtain ⟨hP, hD⟩ := va_join (wr := [(h0, .inr (9, [.ref a1, .ref a2, .ref a3, .ref a4, .ref a5, .ref a6, .int 0, .int 0, .int 0, .int 0, .int 0])), (a1, .inl (cA1, 4000, .inl (fun _ => 0))), (a2, .inl (cA2, 4002, .inl (fun _ => 0))), (a3, .inl (cA3, 4002, .inl (fun _ => 0))), (a4, .inl (cA4, 4002, .inr (.inl (fun _ => 0)))), (a5, .inl (cA5, 39, .inl (g)))]) (w1 := []) hP hD [] [0, 1, 2, 3, 4, 5] rfl rfl (by decide) (by decide) hk1 hFc hP1 hD1
    have hK := (hK.sub (tys' := [(cA1, .byte), (cA2, .int), (cA3, .int), (cA4, .long), (cA5, .int)]) [0, 1, 2, 3, 4] rfl).app hK1
    generalize H1 = H at hP hS ⊢
    have hP : va_P (dC, dI) vwCl [(h0, .inr (9, [.ref a1, .ref a2, .ref a3, .ref a4, .ref a5, .ref a6, .int 0, .int 0, .int 0, .int 0, .int 0])), (a1, .inl (cA1, 4000, .inl (fun _ => 0))), (a2, .inl (cA2, 4002, .inl (fun _ => 0))), (a3, .inl (cA3, 4002, .inl (fun _ => 0))), (a4, .inl (cA4, 4002, .inr (.inl (fun _ => 0)))), (a5, .inl (cA5, 39, .inl (g)))] H := hP
    have hD : va_D A [(h0, .inr (9, [.ref a1, .ref a2, .ref a3, .ref a4, .ref a5, .ref a6, .int 0, .int 0, .int 0, .int 0, .int 0])), (a1, .inl (cA1, 4000, .inl (fun _ => 0))), (a2, .inl (cA2, 4002, .inl (fun _ => 0))), (a3, .inl (cA3, 4002, .inl (fun _ => 0))), (a4, .inl (cA4, 4002, .inr (.inl (fun _ => 0)))), (a5, .inl (cA5, 39, .inl (g)))] := hD
    have hK : va_K (dC, dI) vwCl [(cA1, .byte), (cA2, .int), (cA3, .int), (cA4, .long), (cA5, .int)] s := hK
    refine W.widen (k := 6) (n := 16049) (by omega) (by omega) ?_
    subst hw
    refine lv_icmp_ge (tgt := 98) hx hb dX9_init_78 (by decide) (fun c9 => ?_) (fun c9 => absurd (nI_le (by omega) (by omega)) c9)
    exact hexit j _ _ ls hjM hP hD hS hl
  | succ d ih =>
    intro j hj hjM H locs ls hP hD hS hl
    refine lv_iload_n hx hb dX9_init_72 rfl (lv_at hl 1 rfl) ?_
    refine va_ldcS hx hb hown hR dX9_init_73 ?_
    have hPc := hP.sub (ws' := []) [] rfl
    have hDc := hD.sub (ws' := []) [] (by decide) rfl
    have hKc := hK.sub (tys' := []) [] rfl
    have hFc := va_free (wc := []) hD hS hA [] rfl
    refine va_calli (va_runV (As := []) (rest := [.int (nI j)]) ⟨hx, hb, hml, hown, hts⟩ (c_length l dC dI H.size b v n f) (cwV 0 hts gX9_init_J0_length_8abf5 rfl rfl rfl (by decide +kernel) ⟨Nat.le_of_ble_eq_true rfl, Nat.le_of_ble_eq_true rfl⟩) ⟨fun a U g mk q => by obtain ⟨q0, q1, qP, qK, qD, qE0⟩ := q; exact ⟨q0, q1, qP, va_K.moved (u := U) (U := U.calling g mk a) (Vm.Alike.refl U.vm) qK, qD, st_S.moved (u := U) (U := U.calling g mk a) (Vm.Alike.refl U.vm) qE0⟩, hst.recv hS, fun U hU hW => ⟨rfl, by rw [hU], by rw [hU]; exact hPc, va_K.moved hW.alike hKc, hDc.weaken (fun _ _ _ _ => trivial), by rw [hU]; exact st_S.moved hW.alike ((hst.kept hS.2.1).narrow hFc)⟩⟩ rfl rfl hl.1 rfl (lv_room (Nat.le_of_ble_eq_true rfl)) dX9_init_75 ⟨(show 6 + 0 ≤ 6 by omega), (show 16049 + 0 ≤ 16049 by omega)⟩) hS (fun q _ h => hFc q h) hFc (fun r0 u t H1 locs ht hvm hw hB hz1 hk1 hS => ?_)
    obtain ⟨hP1, hK1, hD1⟩ := hB
    rw [ht] at hP1
    have hK1 := va_K.moved hvm.symm hK1
    obtain ⟨hP, hD⟩ := va_join (wr := [(h0, .inr (9, [.ref a1, .ref a2, .ref a3, .ref a4, .ref a5, .ref a6, .int 0, .int 0, .int 0, .int 0, .int 0])), (a1, .inl (cA1, 4000, .inl (fun _ => 0))), (a2, .inl (cA2, 4002, .inl (fun _ => 0))), (a3, .inl (cA3, 4002, .inl (fun _ => 0))), (a4, .inl (cA4, 4002, .inr (.inl (fun _ => 0)))), (a5, .inl (cA5, 39, .inl (g)))]) (w1 := []) hP hD [] [0, 1, 2, 3, 4, 5] rfl rfl (by decide) (by decide) hk1 hFc hP1 hD1
    have hK := (hK.sub (tys' := [(cA1, .byte), (cA2, .int), (cA3, .int), (cA4, .long), (cA5, .int)]) [0, 1, 2, 3, 4] rfl).app hK1
    generalize H1 = H at hP hS ⊢
    have hP : va_P (dC, dI) vwCl [(h0, .inr (9, [.ref a1, .ref a2, .ref a3, .ref a4, .ref a5, .ref a6, .int 0, .int 0, .int 0, .int 0, .int 0])), (a1, .inl (cA1, 4000, .inl (fun _ => 0))), (a2, .inl (cA2, 4002, .inl (fun _ => 0))), (a3, .inl (cA3, 4002, .inl (fun _ => 0))), (a4, .inl (cA4, 4002, .inr (.inl (fun _ => 0)))), (a5, .inl (cA5, 39, .inl (g)))] H := hP
    have hD : va_D A [(h0, .inr (9, [.ref a1, .ref a2, .ref a3, .ref a4, .ref a5, .ref a6, .int 0, .int 0, .int 0, .int 0, .int 0])), (a1, .inl (cA1, 4000, .inl (fun _ => 0))), (a2, .inl (cA2, 4002, .inl (fun _ => 0))), (a3, .inl (cA3, 4002, .inl (fun _ => 0))), (a4, .inl (cA4, 4002, .inr (.inl (fun _ => 0)))), (a5, .inl (cA5, 39, .inl (g)))] := hD
    have hK : va_K (dC, dI) vwCl [(cA1, .byte), (cA2, .int), (cA3, .int), (cA4, .long), (cA5, .int)] s := hK
    refine W.widen (k := 6) (n := 16049) (by omega) (by omega) ?_
    subst hw
    by_cases hjn : n ≤ j
    · refine lv_icmp_ge (tgt := 98) hx hb dX9_init_78 (by decide) (fun c9 => ?_) (fun c9 => absurd (nI_le hjn (by omega)) c9)
      exact hexit j _ _ ls hjM hP hD hS hl
    · refine lv_icmp_ge (tgt := 98) hx hb dX9_init_78 (by decide) (fun c9 => absurd c9 (nI_ge (by omega) (by omega))) (fun c9 => ?_)
      refine va_ldcS hx hb hown hR dX9_init_81 ?_
      refine lv_iload_n hx hb dX9_init_83 rfl (lv_at hl 1 rfl) ?_
      have hPc := hP.sub (ws' := []) [] rfl
      have hDc := hD.sub (ws' := []) [] (by decide) rfl
      have hKc := hK.sub (tys' := []) [] rfl
      have hFc := va_free (wc := []) hD hS hA [] rfl
      refine va_calli (va_runV (As := [.int (nI j)]) (rest := []) ⟨hx, hb, hml, hown, hts⟩ (c_charAt l dC dI H.size b v n f j (by omega) (by omega)) (cwV 1 hts gX9_init_J0_charAt_5068e rfl rfl rfl (by decide +kernel) ⟨Nat.le_of_ble_eq_true rfl, Nat.le_of_ble_eq_true rfl⟩) ⟨fun a U g mk q => by obtain ⟨q0, q1, qP, qK, qD, qE0⟩ := q; exact ⟨q0, q1, qP, va_K.moved (u := U) (U := U.calling g mk a) (Vm.Alike.refl U.vm) qK, qD, st_S.moved (u := U) (U := U.calling g mk a) (Vm.Alike.refl U.vm) qE0⟩, hst.recv hS, fun U hU hW => ⟨rfl, by rw [hU], by rw [hU]; exact hPc, va_K.moved hW.alike hKc, hDc.weaken (fun _ _ _ _ => trivial), by rw [hU]; exact st_S.moved hW.alike ((hst.kept hS.2.1).narrow hFc)⟩⟩ rfl rfl hl.1 rfl (lv_room (Nat.le_of_ble_eq_true rfl)) dX9_init_84 ⟨(show 6 + 0 ≤ 6 by omega), (show 16049 + 0 ≤ 16049 by omega)⟩) hS (fun q _ h => hFc q h) hFc (fun r1 u t H1 locs ht hvm hw hB hz1 hk1 hS => ?_)
      obtain ⟨hP1, hK1, hD1⟩ := hB
      rw [ht] at hP1
      have hK1 := va_K.moved hvm.symm hK1
      obtain ⟨hP, hD⟩ := va_join (wr := [(h0, .inr (9, [.ref a1, .ref a2, .ref a3, .ref a4, .ref a5, .ref a6, .int 0, .int 0, .int 0, .int 0, .int 0])), (a1, .inl (cA1, 4000, .inl (fun _ => 0))), (a2, .inl (cA2, 4002, .inl (fun _ => 0))), (a3, .inl (cA3, 4002, .inl (fun _ => 0))), (a4, .inl (cA4, 4002, .inr (.inl (fun _ => 0)))), (a5, .inl (cA5, 39, .inl (g)))]) (w1 := []) hP hD [] [0, 1, 2, 3, 4, 5] rfl rfl (by decide) (by decide) hk1 hFc hP1 hD1
      have hK := (hK.sub (tys' := [(cA1, .byte), (cA2, .int), (cA3, .int), (cA4, .long), (cA5, .int)]) [0, 1, 2, 3, 4] rfl).app hK1
      generalize H1 = H at hP hS ⊢
      have hP : va_P (dC, dI) vwCl [(h0, .inr (9, [.ref a1, .ref a2, .ref a3, .ref a4, .ref a5, .ref a6, .int 0, .int 0, .int 0, .int 0, .int 0])), (a1, .inl (cA1, 4000, .inl (fun _ => 0))), (a2, .inl (cA2, 4002, .inl (fun _ => 0))), (a3, .inl (cA3, 4002, .inl (fun _ => 0))), (a4, .inl (cA4, 4002, .inr (.inl (fun _ => 0)))), (a5, .inl (cA5, 39, .inl (g)))] H := hP
      have hD : va_D A [(h0, .inr (9, [.ref a1, .ref a2, .ref a3, .ref a4, .ref a5, .ref a6, .int 0, .int 0, .int 0, .int 0, .int 0])), (a1, .inl (cA1, 4000, .inl (fun _ => 0))), (a2, .inl (cA2, 4002, .inl (fun _ => 0))), (a3, .inl (cA3, 4002, .inl (fun _ => 0))), (a4, .inl (cA4, 4002, .inr (.inl (fun _ => 0)))), (a5, .inl (cA5, 39, .inl (g)))] := hD
      have hK : va_K (dC, dI) vwCl [(cA1, .byte), (cA2, .int), (cA3, .int), (cA4, .long), (cA5, .int)] s := hK
      refine W.widen (k := 6) (n := 16049) (by omega) (by omega) ?_
      refine lv_bipush (v := 59) hx hb dX9_init_87 (by decide) ?_
      refine lv_icmp_eq (tgt := 98) hx hb dX9_init_89 (by decide) (fun c9 => ?_) (fun c9 => ?_)
      · exact hexit j _ _ ls hjM hP hD hS hl
      · refine lv_iinc (v := nI (j + 1)) (lv' := [(1, .int (nI (j + 1))), (0, .ref h0), (2, .int (nI k))]) hx hb dX9_init_92 hl (k := 1) rfl (by rw [← nI_1]; rfl) (by decide) rfl (fun ls hl => ?_)
        refine lv_goto (tgt := 72) hx hb dX9_init_95 (by decide) ?_
        exact ih (j + 1) (by omega) (by omega) _ _ ls hP hD hS (lv_sub hl [1, 0, 2] rfl)
set_option maxHeartbeats 1000000 in
set_option maxRecDepth 100000 in
theorem lp_tapeOut {p : Program} {l : Launch} {e : Env} {s : State} {m : MethodId} {args : Array Value} {below : List Frame} {meth : Method} {c : Code} {Q : State → Prop} {dC : Nat → ClassId} {dI : Nat → Nat → Nat} {A : Nat → Prop} {h0 a1 a2 a3 a4 a5 a6 b v n : Nat} {f : Nat → Int32} {cA1 cA2 cA3 cA4 cA5 : ClassId} (hn : n < 2 ^ 30) (hx : p.tables.exec = Jvm.exec) (hb : c.code = cX9_init) (hml : c.maxLocals = 3) (hown : s.vm.findClass RX9 = some m.cls) (hts : ∀ w ∈ wsX9_init, w.before args s = true) (hA : ∀ q : Nat, s.heap.size ≤ q → A q) (hR : vk_R RX9 32 "SORT a;FUN aSs;REL aS;VAR as;AXIOM aF;DEFINE aVF;PROOF ;THEOREM a;SHOW p;FROM pk;TELL t;ALIKE XX;PUT FvU;SIZE sz;ZERO o;VALUE fKw;HOLDS rK;LACKS rK;JUDGE F;ASSUME F;BOTH pp;LEFT p;RIGHT p;FIRST pF;SECOND pF;CASE ppp;APPLY pp;DISCHARGE pF;GENERALISE pv;SPECIALISE pT;WITNESS pTF;OPEN ppv;SAME T;REPLACE ppvF;ABSURD pF;INDUCTION ppiF;COUNT c;USE t;SEARCH F*;" b s) (hst : st_S b v n f A s s.heap) (hK : va_K (dC, dI) vwCl [(cA1, .byte), (cA2, .int), (cA3, .int), (cA4, .long), (cA5, .int)] s) (hexit : ∀ (g : Nat → Int32) (j k : Nat) (H : Heap) (locs : List Loc) (ls : Array Slot), va_P (dC, dI) vwCl [(h0, .inr (9, [.ref a1, .ref a2, .ref a3, .ref a4, .ref a5, .ref a6, .int 0, .int 0, .int 0, .int 0, .int 0])), (a1, .inl (cA1, 4000, .inl (fun _ => 0))), (a2, .inl (cA2, 4002, .inl (fun _ => 0))), (a3, .inl (cA3, 4002, .inl (fun _ => 0))), (a4, .inl (cA4, 4002, .inr (.inl (fun _ => 0)))), (a5, .inl (cA5, 39, .inl (g)))] H → va_D A [(h0, .inr (9, [.ref a1, .ref a2, .ref a3, .ref a4, .ref a5, .ref a6, .int 0, .int 0, .int 0, .int 0, .int 0])), (a1, .inl (cA1, 4000, .inl (fun _ => 0))), (a2, .inl (cA2, 4002, .inl (fun _ => 0))), (a3, .inl (cA3, 4002, .inl (fun _ => 0))), (a4, .inl (cA4, 4002, .inr (.inl (fun _ => 0)))), (a5, .inl (cA5, 39, .inl (g)))] → va_S A s.heap H locs → lv_has ls 3 [(0, .ref h0), (1, .int (nI j)), (2, .int (nI k))] → W p l e ({ frames := 4, cells := 6, slots := 16049, locals := 85 } : Room) s m args below meth c H locs 6 16049 Q (F0 m 107 ls [])) : ∀ (d k j : Nat), 39 = k + d → j ≤ n + k → ∀ (g : Nat → Int32) (H : Heap) (locs : List Loc) (ls : Array Slot), va_P (dC, dI) vwCl [(h0, .inr (9, [.ref a1, .ref a2, .ref a3, .ref a4, .ref a5, .ref a6, .int 0, .int 0, .int 0, .int 0, .int 0])), (a1, .inl (cA1, 4000, .inl (fun _ => 0))), (a2, .inl (cA2, 4002, .inl (fun _ => 0))), (a3, .inl (cA3, 4002, .inl (fun _ => 0))), (a4, .inl (cA4, 4002, .inr (.inl (fun _ => 0)))), (a5, .inl (cA5, 39, .inl (g)))] H → va_D A [(h0, .inr (9, [.ref a1, .ref a2, .ref a3, .ref a4, .ref a5, .ref a6, .int 0, .int 0, .int 0, .int 0, .int 0])), (a1, .inl (cA1, 4000, .inl (fun _ => 0))), (a2, .inl (cA2, 4002, .inl (fun _ => 0))), (a3, .inl (cA3, 4002, .inl (fun _ => 0))), (a4, .inl (cA4, 4002, .inr (.inl (fun _ => 0)))), (a5, .inl (cA5, 39, .inl (g)))] → va_S A s.heap H locs → lv_has ls 3 [(0, .ref h0), (1, .int (nI j)), (2, .int (nI k))] → W p l e ({ frames := 4, cells := 6, slots := 16049, locals := 85 } : Room) s m args below meth c H locs 6 16049 Q (F0 m 59 ls []) := by
  intro d
  induction d with
  | zero =>
    intro k j hk hj g H locs ls hP hD hS hl
    refine lv_iload_n hx hb dX9_init_59 rfl (lv_at hl 2 rfl) ?_
    refine lv_bipush (v := 39) hx hb dX9_init_60 (by decide) ?_
    refine lv_icmp_ge (tgt := 107) hx hb dX9_init_62 (by decide) (fun c9 => ?_) (fun c9 => absurd (show (39 : Int32) ≤ nI k from by rw [show k = 39 by omega]; decide) c9)
    exact hexit g j k _ _ ls hP hD hS hl
  | succ d ih =>
    intro k j hk hj g H locs ls hP hD hS hl
    refine lv_iload_n hx hb dX9_init_59 rfl (lv_at hl 2 rfl) ?_
    refine lv_bipush (v := 39) hx hb dX9_init_60 (by decide) ?_
    refine lv_icmp_ge (tgt := 107) hx hb dX9_init_62 (by decide) (fun c9 => absurd c9 (show ¬ (39 : Int32) ≤ nI k from nI_ge (b := 39) (by omega) (by decide))) (fun c9 => ?_)
    refine lv_aload_n hx hb dX9_init_65 rfl (lv_at hl 0 rfl) ?_
    refine va_get (D := (dC, dI)) (ci := 9) (v := .ref a5) (C := RX9) (T := TX9) (N := 11) hx hb hts (by decide +kernel) hown hK hP 0 rfl rfl 4 (by decide) (hts (.fieldLink RX9 26 "ProofBench$Tape" "formAt" "[I") (by decide +kernel)) (fun _ h9 => h9) rfl dX9_init_66 ?_
    refine lv_iload_n hx hb dX9_init_69 rfl (lv_at hl 2 rfl) ?_
    refine lv_iload_n hx hb dX9_init_70 rfl (lv_at hl 1 rfl) ?_
    refine va_iast hx hb hK hP hD hS 5 4 rfl rfl (vp_in_nI (N := 39) (by omega) (by decide)) dX9_init_71 (fun H locs hP hD hS => ?_)
    obtain ⟨f_1, hP, hD⟩ : ∃ f9 : Nat → Int32, va_P (dC, dI) vwCl [(h0, .inr (9, [.ref a1, .ref a2, .ref a3, .ref a4, .ref a5, .ref a6, .int 0, .int 0, .int 0, .int 0, .int 0])), (a1, .inl (cA1, 4000, .inl (fun _ => 0))), (a2, .inl (cA2, 4002, .inl (fun _ => 0))), (a3, .inl (cA3, 4002, .inl (fun _ => 0))), (a4, .inl (cA4, 4002, .inr (.inl (fun _ => 0)))), (a5, .inl (cA5, 39, .inl (f9)))] H ∧ va_D A [(h0, .inr (9, [.ref a1, .ref a2, .ref a3, .ref a4, .ref a5, .ref a6, .int 0, .int 0, .int 0, .int 0, .int 0])), (a1, .inl (cA1, 4000, .inl (fun _ => 0))), (a2, .inl (cA2, 4002, .inl (fun _ => 0))), (a3, .inl (cA3, 4002, .inl (fun _ => 0))), (a4, .inl (cA4, 4002, .inr (.inl (fun _ => 0)))), (a5, .inl (cA5, 39, .inl (f9)))] := ⟨_, hP, hD⟩
    refine lp_tapeIn hn hx hb hml hown hts hA hR hst hK (M := n + k) (by omega) (by omega) (fun j2 H locs ls hj2 hP hD hS hl => ?_) n j (by omega) hj _ _ ls hP hD hS hl
    refine lv_iinc (v := nI (j2 + 1)) (lv' := [(1, .int (nI (j2 + 1))), (0, .ref h0), (2, .int (nI k))]) hx hb dX9_init_98 hl (k := 1) rfl (by rw [← nI_1]; rfl) (by decide) rfl (fun ls hl => ?_)
    refine lv_iinc (v := nI (k + 1)) (lv' := [(2, .int (nI (k + 1))), (1, .int (nI (j2 + 1))), (0, .ref h0)]) hx hb dX9_init_101 hl (k := 2) rfl (by rw [← nI_1]; rfl) (by decide) rfl (fun ls hl => ?_)
    refine lv_goto (tgt := 59) hx hb dX9_init_104 (by decide) ?_
    exact ih (k + 1) (j2 + 1) (by omega) (by omega) _ _ _ ls hP hD hS (lv_sub hl [2, 1, 0] rfl)
set_option maxHeartbeats 1000000 in
set_option maxRecDepth 100000 in
/-- Tape(): empty -/
theorem c_Tape_init (l : Launch) (dC : Nat → ClassId) (dI : Nat → Nat → Nat) (sz : Nat) (h0 b v n : Nat) (f : Nat → Int32) (hn : n < 2 ^ 30) : Met l yX9_init wsX9_init ({ frames := 4, cells := 6, slots := 16049, locals := 85 }) (va_Pc [.ref h0] (fun U => U.heap.size = sz ∧ va_P (dC, dI) vwCl [(h0, .inr (9, [.null, .null, .null, .null, .null, .null, .int 0, .int 0, .int 0, .int 0, .int 0]))] U.heap ∧ va_K (dC, dI) vwCl [] U ∧ va_D (fun _ => True) [(h0, .inr (9, [.null, .null, .null, .null, .null, .null, .int 0, .int 0, .int 0, .int 0, .int 0]))] ∧ vk_R RX9 32 "SORT a;FUN aSs;REL aS;VAR as;AXIOM aF;DEFINE aVF;PROOF ;THEOREM a;SHOW p;FROM pk;TELL t;ALIKE XX;PUT FvU;SIZE sz;ZERO o;VALUE fKw;HOLDS rK;LACKS rK;JUDGE F;ASSUME F;BOTH pp;LEFT p;RIGHT p;FIRST pF;SECOND pF;CASE ppp;APPLY pp;DISCHARGE pF;GENERALISE pv;SPECIALISE pT;WITNESS pTF;OPEN ppv;SAME T;REPLACE ppvF;ABSURD pF;INDUCTION ppiF;COUNT c;USE t;SEARCH F*;" b U ∧ st_S b v n f (va_A [(h0, .inr (9, [.null, .null, .null, .null, .null, .null, .int 0, .int 0, .int 0, .int 0, .int 0]))] sz) U U.heap)) (va_Qv (fun _ : Unit => True) (fun _ t => ∃ (q_1 q_3 q_5 q_7 q_9 q_11 : Nat) (cA_2 cA_4 cA_6 cA_8 : ClassId), va_P (dC, dI) vwCl [(h0, .inr (9, [.ref q_1, .ref q_3, .ref q_5, .ref q_7, .ref q_9, .ref q_11, .int 0, .int 0, .int 0, .int 0, .int 0])), (q_1, .inl (cA_2, 4000, .inl (fun _ => 0))), (q_3, .inl (cA_4, 4002, .inl (fun _ => 0))), (q_5, .inl (cA_6, 4002, .inl (fun _ => 0))), (q_7, .inl (cA_8, 4002, .inr (.inl (fun _ => 0))))] t.heap ∧ va_K (dC, dI) vwCl [(cA_2, .byte), (cA_4, .int), (cA_6, .int), (cA_8, .long)] t ∧ va_D (va_A [(h0, .inr (9, [.null, .null, .null, .null, .null, .null, .int 0, .int 0, .int 0, .int 0, .int 0]))] sz) [(h0, .inr (9, [.ref q_1, .ref q_3, .ref q_5, .ref q_7, .ref q_9, .ref q_11, .int 0, .int 0, .int 0, .int 0, .int 0])), (q_1, .inl (cA_2, 4000, .inl (fun _ => 0))), (q_3, .inl (cA_4, 4002, .inl (fun _ => 0))), (q_5, .inl (cA_6, 4002, .inl (fun _ => 0))), (q_7, .inl (cA_8, 4002, .inr (.inl (fun _ => 0))))]) (va_A [(h0, .inr (9, [.null, .null, .null, .null, .null, .null, .int 0, .int 0, .int 0, .int 0, .int 0]))] sz)) (6) (16049) (va_A [(h0, .inr (9, [.null, .null, .null, .null, .null, .null, .int 0, .int 0, .int 0, .int 0, .int 0]))] sz) := by
  refine Met.ofW (cc := cX9_init) (maxL := 3) (ret := none) (by decide) rfl ?_
  intro p e s m args below meth c s₁ B hml hv
  obtain ⟨rfl, hsz, hP, hK, hD0, hR, hst⟩ := hv
  have hx := B.exec
  have hb := B.bytes
  have hr := B.returns
  have hts := atoms_spec (ws := wsX9_init) B.pre
  have hown : s.vm.findClass RX9 = some m.cls := findClass_of_methodNamed B.named
  have hlocks := B.notSynchronized
  have hin : meth.name = "<init>" := (name_of_methodNamed B.named B.method).1
  subst hsz
  have hD := hD0.self (sz := s.heap.size)
  generalize hAe : va_A [(h0, .inr (9, [.null, .null, .null, .null, .null, .null, .int 0, .int 0, .int 0, .int 0, .int 0]))] s.heap.size = A at hD hst ⊢
  have hA : ∀ q : Nat, s.heap.size ≤ q → A q := fun q h => by rw [← hAe]; exact Or.inr h
  have hS : va_S A s.heap s.heap [] := va_S.rf
  have hl := lv_entry ([.ref h0]) (n := 3) (Nat.le_of_ble_eq_true rfl)
  rw [lg_entry_eq]
  generalize (lg_sl ([.ref h0]) ++ List.replicate (3 - (lg_sl ([.ref h0])).length) Slot.unset).toArray = ls at hl ⊢
  have hl : lv_has ls 3 [(0, .ref h0)] := hl
  refine lv_aload_n hx hb dX9_init_0 rfl (lv_at hl 0 rfl) ?_
  refine W.objInit hx hb hown (hts (.methodLink RX9 3 objectInit) (by decide +kernel)) (hts (.instanceMethod objectInit) (by decide +kernel)) (hts (.code objectInit ⟨#[0xb1]⟩ 1 none) (by decide +kernel)) rfl (by rw [hml]; exact hl.1) rfl dX9_init_1 (Nat.le_of_ble_eq_true rfl) (Nat.le_of_ble_eq_true rfl) ?_
  refine W.eq (g2 := F0 m 4 ls []) rfl ?_
  refine lv_aload_n hx hb dX9_init_4 rfl (lv_at hl 0 rfl) ?_
  refine lv_sipush (v := 4000) hx hb dX9_init_5 (by decide) ?_
  refine va_newa (atype := .byte) (n := 4000) (N' := 4000) (ty := .byte) (a0 := (4000, .inl (fun _ => 0))) hx hb (hts (.arrayClass .byte) (by decide +kernel)) rfl hK hP hD hS hA (fun _ => rfl) (by decide) (by decide) (by decide) (show 0 + 1 ≤ 6 by omega) (show 0 + 4000 ≤ 16049 by omega) dX9_init_8 (fun q_1 cA_2 H hK hP hD hS => ?_)
  have hP : va_P (dC, dI) vwCl [(h0, .inr (9, [.null, .null, .null, .null, .null, .null, .int 0, .int 0, .int 0, .int 0, .int 0])), (q_1, .inl (cA_2, 4000, .inl (fun _ => 0)))] H := hP
  have hD : va_D A [(h0, .inr (9, [.null, .null, .null, .null, .null, .null, .int 0, .int 0, .int 0, .int 0, .int 0])), (q_1, .inl (cA_2, 4000, .inl (fun _ => 0)))] := hD
  have hK : va_K (dC, dI) vwCl [(cA_2, .byte)] s := hK
  refine W.widen (k := 1) (n := 4000) (by omega) (by omega) ?_
  refine va_putF (D := (dC, dI)) (ci := 9) (v := .ref q_1) (ty := .array .byte) (C := RX9) (T := TX9) (N := 11) hx hb hts (by decide +kernel) tyX9 tyX9_ok nmX9 hown hK hP hD hS 0 rfl rfl 0 (by decide) (hts (.fieldLink RX9 9 "ProofBench$Tape" "bytes" "[B") (by decide +kernel)) (fun _ h9 => h9) rfl hin rfl (by decide +kernel) rfl rfl (Nat.le_of_ble_eq_true rfl) dX9_init_10 (fun H locs hP hD hS => ?_)
  have hP : va_P (dC, dI) vwCl [(h0, .inr (9, [.ref q_1, .null, .null, .null, .null, .null, .int 0, .int 0, .int 0, .int 0, .int 0])), (q_1, .inl (cA_2, 4000, .inl (fun _ => 0)))] H := hP
  have hD : va_D A [(h0, .inr (9, [.ref q_1, .null, .null, .null, .null, .null, .int 0, .int 0, .int 0, .int 0, .int 0])), (q_1, .inl (cA_2, 4000, .inl (fun _ => 0)))] := hD
  refine lv_aload_n hx hb dX9_init_13 rfl (lv_at hl 0 rfl) ?_
  refine lv_sipush (v := 4002) hx hb dX9_init_14 (by decide) ?_
  refine va_newa (atype := .int) (n := 4002) (N' := 4002) (ty := .int) (a0 := (4002, .inl (fun _ => 0))) hx hb (hts (.arrayClass .int) (by decide +kernel)) rfl hK hP hD hS hA (fun _ => rfl) (by decide) (by decide) (by decide) (show 1 + 1 ≤ 6 by omega) (show 4000 + 4002 ≤ 16049 by omega) dX9_init_17 (fun q_3 cA_4 H hK hP hD hS => ?_)
  have hP : va_P (dC, dI) vwCl [(h0, .inr (9, [.ref q_1, .null, .null, .null, .null, .null, .int 0, .int 0, .int 0, .int 0, .int 0])), (q_1, .inl (cA_2, 4000, .inl (fun _ => 0))), (q_3, .inl (cA_4, 4002, .inl (fun _ => 0)))] H := hP
  have hD : va_D A [(h0, .inr (9, [.ref q_1, .null, .null, .null, .null, .null, .int 0, .int 0, .int 0, .int 0, .int 0])), (q_1, .inl (cA_2, 4000, .inl (fun _ => 0))), (q_3, .inl (cA_4, 4002, .inl (fun _ => 0)))] := hD
  have hK : va_K (dC, dI) vwCl [(cA_2, .byte), (cA_4, .int)] s := hK
  refine W.widen (k := 2) (n := 8002) (by omega) (by omega) ?_
  refine va_putF (D := (dC, dI)) (ci := 9) (v := .ref q_3) (ty := .array .int) (C := RX9) (T := TX9) (N := 11) hx hb hts (by decide +kernel) tyX9 tyX9_ok nmX9 hown hK hP hD hS 0 rfl rfl 1 (by decide) (hts (.fieldLink RX9 15 "ProofBench$Tape" "kinds" "[I") (by decide +kernel)) (fun _ h9 => h9) rfl hin rfl (by decide +kernel) rfl rfl (Nat.le_of_ble_eq_true rfl) dX9_init_19 (fun H locs hP hD hS => ?_)
  have hP : va_P (dC, dI) vwCl [(h0, .inr (9, [.ref q_1, .ref q_3, .null, .null, .null, .null, .int 0, .int 0, .int 0, .int 0, .int 0])), (q_1, .inl (cA_2, 4000, .inl (fun _ => 0))), (q_3, .inl (cA_4, 4002, .inl (fun _ => 0)))] H := hP
  have hD : va_D A [(h0, .inr (9, [.ref q_1, .ref q_3, .null, .null, .null, .null, .int 0, .int 0, .int 0, .int 0, .int 0])), (q_1, .inl (cA_2, 4000, .inl (fun _ => 0))), (q_3, .inl (cA_4, 4002, .inl (fun _ => 0)))] := hD
  refine lv_aload_n hx hb dX9_init_22 rfl (lv_at hl 0 rfl) ?_
  refine lv_sipush (v := 4002) hx hb dX9_init_23 (by decide) ?_
  refine va_newa (atype := .int) (n := 4002) (N' := 4002) (ty := .int) (a0 := (4002, .inl (fun _ => 0))) hx hb (hts (.arrayClass .int) (by decide +kernel)) rfl hK hP hD hS hA (fun _ => rfl) (by decide) (by decide) (by decide) (show 2 + 1 ≤ 6 by omega) (show 8002 + 4002 ≤ 16049 by omega) dX9_init_26 (fun q_5 cA_6 H hK hP hD hS => ?_)
  have hP : va_P (dC, dI) vwCl [(h0, .inr (9, [.ref q_1, .ref q_3, .null, .null, .null, .null, .int 0, .int 0, .int 0, .int 0, .int 0])), (q_1, .inl (cA_2, 4000, .inl (fun _ => 0))), (q_3, .inl (cA_4, 4002, .inl (fun _ => 0))), (q_5, .inl (cA_6, 4002, .inl (fun _ => 0)))] H := hP
  have hD : va_D A [(h0, .inr (9, [.ref q_1, .ref q_3, .null, .null, .null, .null, .int 0, .int 0, .int 0, .int 0, .int 0])), (q_1, .inl (cA_2, 4000, .inl (fun _ => 0))), (q_3, .inl (cA_4, 4002, .inl (fun _ => 0))), (q_5, .inl (cA_6, 4002, .inl (fun _ => 0)))] := hD
  have hK : va_K (dC, dI) vwCl [(cA_2, .byte), (cA_4, .int), (cA_6, .int)] s := hK
  refine W.widen (k := 3) (n := 12004) (by omega) (by omega) ?_
  refine va_putF (D := (dC, dI)) (ci := 9) (v := .ref q_5) (ty := .array .int) (C := RX9) (T := TX9) (N := 11) hx hb hts (by decide +kernel) tyX9 tyX9_ok nmX9 hown hK hP hD hS 0 rfl rfl 2 (by decide) (hts (.fieldLink RX9 19 "ProofBench$Tape" "starts" "[I") (by decide +kernel)) (fun _ h9 => h9) rfl hin rfl (by decide +kernel) rfl rfl (Nat.le_of_ble_eq_true rfl) dX9_init_28 (fun H locs hP hD hS => ?_)
  have hP : va_P (dC, dI) vwCl [(h0, .inr (9, [.ref q_1, .ref q_3, .ref q_5, .null, .null, .null, .int 0, .int 0, .int 0, .int 0, .int 0])), (q_1, .inl (cA_2, 4000, .inl (fun _ => 0))), (q_3, .inl (cA_4, 4002, .inl (fun _ => 0))), (q_5, .inl (cA_6, 4002, .inl (fun _ => 0)))] H := hP
  have hD : va_D A [(h0, .inr (9, [.ref q_1, .ref q_3, .ref q_5, .null, .null, .null, .int 0, .int 0, .int 0, .int 0, .int 0])), (q_1, .inl (cA_2, 4000, .inl (fun _ => 0))), (q_3, .inl (cA_4, 4002, .inl (fun _ => 0))), (q_5, .inl (cA_6, 4002, .inl (fun _ => 0)))] := hD
  refine lv_aload_n hx hb dX9_init_31 rfl (lv_at hl 0 rfl) ?_
  refine lv_sipush (v := 4002) hx hb dX9_init_32 (by decide) ?_
  refine va_newa (atype := .long) (n := 4002) (N' := 4002) (ty := .long) (a0 := (4002, .inr (.inl (fun _ => 0)))) hx hb (hts (.arrayClass .long) (by decide +kernel)) rfl hK hP hD hS hA (fun _ => rfl) (by decide) (by decide) (by decide) (show 3 + 1 ≤ 6 by omega) (show 12004 + 4002 ≤ 16049 by omega) dX9_init_35 (fun q_7 cA_8 H hK hP hD hS => ?_)
  have hP : va_P (dC, dI) vwCl [(h0, .inr (9, [.ref q_1, .ref q_3, .ref q_5, .null, .null, .null, .int 0, .int 0, .int 0, .int 0, .int 0])), (q_1, .inl (cA_2, 4000, .inl (fun _ => 0))), (q_3, .inl (cA_4, 4002, .inl (fun _ => 0))), (q_5, .inl (cA_6, 4002, .inl (fun _ => 0))), (q_7, .inl (cA_8, 4002, .inr (.inl (fun _ => 0))))] H := hP
  have hD : va_D A [(h0, .inr (9, [.ref q_1, .ref q_3, .ref q_5, .null, .null, .null, .int 0, .int 0, .int 0, .int 0, .int 0])), (q_1, .inl (cA_2, 4000, .inl (fun _ => 0))), (q_3, .inl (cA_4, 4002, .inl (fun _ => 0))), (q_5, .inl (cA_6, 4002, .inl (fun _ => 0))), (q_7, .inl (cA_8, 4002, .inr (.inl (fun _ => 0))))] := hD
  have hK : va_K (dC, dI) vwCl [(cA_2, .byte), (cA_4, .int), (cA_6, .int), (cA_8, .long)] s := hK
  refine W.widen (k := 4) (n := 16006) (by omega) (by omega) ?_
  refine va_putF (D := (dC, dI)) (ci := 9) (v := .ref q_7) (ty := .array .long) (C := RX9) (T := TX9) (N := 11) hx hb hts (by decide +kernel) tyX9 tyX9_ok nmX9 hown hK hP hD hS 0 rfl rfl 3 (by decide) (hts (.fieldLink RX9 22 "ProofBench$Tape" "worths" "[J") (by decide +kernel)) (fun _ h9 => h9) rfl hin rfl (by decide +kernel) rfl rfl (Nat.le_of_ble_eq_true rfl) dX9_init_37 (fun H locs hP hD hS => ?_)
  have hP : va_P (dC, dI) vwCl [(h0, .inr (9, [.ref q_1, .ref q_3, .ref q_5, .ref q_7, .null, .null, .int 0, .int 0, .int 0, .int 0, .int 0])), (q_1, .inl (cA_2, 4000, .inl (fun _ => 0))), (q_3, .inl (cA_4, 4002, .inl (fun _ => 0))), (q_5, .inl (cA_6, 4002, .inl (fun _ => 0))), (q_7, .inl (cA_8, 4002, .inr (.inl (fun _ => 0))))] H := hP
  have hD : va_D A [(h0, .inr (9, [.ref q_1, .ref q_3, .ref q_5, .ref q_7, .null, .null, .int 0, .int 0, .int 0, .int 0, .int 0])), (q_1, .inl (cA_2, 4000, .inl (fun _ => 0))), (q_3, .inl (cA_4, 4002, .inl (fun _ => 0))), (q_5, .inl (cA_6, 4002, .inl (fun _ => 0))), (q_7, .inl (cA_8, 4002, .inr (.inl (fun _ => 0))))] := hD
  refine lv_aload_n hx hb dX9_init_40 rfl (lv_at hl 0 rfl) ?_
  refine lv_bipush (v := 39) hx hb dX9_init_41 (by decide) ?_
  refine va_newa (atype := .int) (n := 39) (N' := 39) (ty := .int) (a0 := (39, .inl (fun _ => 0))) hx hb (hts (.arrayClass .int) (by decide +kernel)) rfl hK hP hD hS hA (fun _ => rfl) (by decide) (by decide) (by decide) (show 4 + 1 ≤ 6 by omega) (show 16006 + 39 ≤ 16049 by omega) dX9_init_43 (fun q_9 cA_10 H hK hP hD hS => ?_)
  have hP : va_P (dC, dI) vwCl [(h0, .inr (9, [.ref q_1, .ref q_3, .ref q_5, .ref q_7, .null, .null, .int 0, .int 0, .int 0, .int 0, .int 0])), (q_1, .inl (cA_2, 4000, .inl (fun _ => 0))), (q_3, .inl (cA_4, 4002, .inl (fun _ => 0))), (q_5, .inl (cA_6, 4002, .inl (fun _ => 0))), (q_7, .inl (cA_8, 4002, .inr (.inl (fun _ => 0)))), (q_9, .inl (cA_10, 39, .inl (fun _ => 0)))] H := hP
  have hD : va_D A [(h0, .inr (9, [.ref q_1, .ref q_3, .ref q_5, .ref q_7, .null, .null, .int 0, .int 0, .int 0, .int 0, .int 0])), (q_1, .inl (cA_2, 4000, .inl (fun _ => 0))), (q_3, .inl (cA_4, 4002, .inl (fun _ => 0))), (q_5, .inl (cA_6, 4002, .inl (fun _ => 0))), (q_7, .inl (cA_8, 4002, .inr (.inl (fun _ => 0)))), (q_9, .inl (cA_10, 39, .inl (fun _ => 0)))] := hD
  have hK : va_K (dC, dI) vwCl [(cA_2, .byte), (cA_4, .int), (cA_6, .int), (cA_8, .long), (cA_10, .int)] s := hK
  refine W.widen (k := 5) (n := 16045) (by omega) (by omega) ?_
  refine va_putF (D := (dC, dI)) (ci := 9) (v := .ref q_9) (ty := .array .int) (C := RX9) (T := TX9) (N := 11) hx hb hts (by decide +kernel) tyX9 tyX9_ok nmX9 hown hK hP hD hS 0 rfl rfl 4 (by decide) (hts (.fieldLink RX9 26 "ProofBench$Tape" "formAt" "[I") (by decide +kernel)) (fun _ h9 => h9) rfl hin rfl (by decide +kernel) rfl rfl (Nat.le_of_ble_eq_true rfl) dX9_init_45 (fun H locs hP hD hS => ?_)
  have hP : va_P (dC, dI) vwCl [(h0, .inr (9, [.ref q_1, .ref q_3, .ref q_5, .ref q_7, .ref q_9, .null, .int 0, .int 0, .int 0, .int 0, .int 0])), (q_1, .inl (cA_2, 4000, .inl (fun _ => 0))), (q_3, .inl (cA_4, 4002, .inl (fun _ => 0))), (q_5, .inl (cA_6, 4002, .inl (fun _ => 0))), (q_7, .inl (cA_8, 4002, .inr (.inl (fun _ => 0)))), (q_9, .inl (cA_10, 39, .inl (fun _ => 0)))] H := hP
  have hD : va_D A [(h0, .inr (9, [.ref q_1, .ref q_3, .ref q_5, .ref q_7, .ref q_9, .null, .int 0, .int 0, .int 0, .int 0, .int 0])), (q_1, .inl (cA_2, 4000, .inl (fun _ => 0))), (q_3, .inl (cA_4, 4002, .inl (fun _ => 0))), (q_5, .inl (cA_6, 4002, .inl (fun _ => 0))), (q_7, .inl (cA_8, 4002, .inr (.inl (fun _ => 0)))), (q_9, .inl (cA_10, 39, .inl (fun _ => 0)))] := hD
  refine lv_aload_n hx hb dX9_init_48 rfl (lv_at hl 0 rfl) ?_
  refine lv_iconst (v := 4) hx hb dX9_init_49 (by decide) ?_
  refine va_newa (atype := .int) (n := 4) (N' := 4) (ty := .int) (a0 := (4, .inl (fun _ => 0))) hx hb (hts (.arrayClass .int) (by decide +kernel)) rfl hK hP hD hS hA (fun _ => rfl) (by decide) (by decide) (by decide) (show 5 + 1 ≤ 6 by omega) (show 16045 + 4 ≤ 16049 by omega) dX9_init_50 (fun q_11 cA_12 H hK hP hD hS => ?_)
  have hP : va_P (dC, dI) vwCl [(h0, .inr (9, [.ref q_1, .ref q_3, .ref q_5, .ref q_7, .ref q_9, .null, .int 0, .int 0, .int 0, .int 0, .int 0])), (q_1, .inl (cA_2, 4000, .inl (fun _ => 0))), (q_3, .inl (cA_4, 4002, .inl (fun _ => 0))), (q_5, .inl (cA_6, 4002, .inl (fun _ => 0))), (q_7, .inl (cA_8, 4002, .inr (.inl (fun _ => 0)))), (q_9, .inl (cA_10, 39, .inl (fun _ => 0))), (q_11, .inl (cA_12, 4, .inl (fun _ => 0)))] H := hP
  have hD : va_D A [(h0, .inr (9, [.ref q_1, .ref q_3, .ref q_5, .ref q_7, .ref q_9, .null, .int 0, .int 0, .int 0, .int 0, .int 0])), (q_1, .inl (cA_2, 4000, .inl (fun _ => 0))), (q_3, .inl (cA_4, 4002, .inl (fun _ => 0))), (q_5, .inl (cA_6, 4002, .inl (fun _ => 0))), (q_7, .inl (cA_8, 4002, .inr (.inl (fun _ => 0)))), (q_9, .inl (cA_10, 39, .inl (fun _ => 0))), (q_11, .inl (cA_12, 4, .inl (fun _ => 0)))] := hD
  have hK : va_K (dC, dI) vwCl [(cA_2, .byte), (cA_4, .int), (cA_6, .int), (cA_8, .long), (cA_10, .int), (cA_12, .int)] s := hK
  refine W.widen (k := 6) (n := 16049) (by omega) (by omega) ?_
  refine va_putF (D := (dC, dI)) (ci := 9) (v := .ref q_11) (ty := .array .int) (C := RX9) (T := TX9) (N := 11) hx hb hts (by decide +kernel) tyX9 tyX9_ok nmX9 hown hK hP hD hS 0 rfl rfl 5 (by decide) (hts (.fieldLink RX9 29 "ProofBench$Tape" "operandAt" "[I") (by decide +kernel)) (fun _ h9 => h9) rfl hin rfl (by decide +kernel) rfl rfl (Nat.le_of_ble_eq_true rfl) dX9_init_52 (fun H locs hP hD hS => ?_)
  have hP : va_P (dC, dI) vwCl [(h0, .inr (9, [.ref q_1, .ref q_3, .ref q_5, .ref q_7, .ref q_9, .ref q_11, .int 0, .int 0, .int 0, .int 0, .int 0])), (q_1, .inl (cA_2, 4000, .inl (fun _ => 0))), (q_3, .inl (cA_4, 4002, .inl (fun _ => 0))), (q_5, .inl (cA_6, 4002, .inl (fun _ => 0))), (q_7, .inl (cA_8, 4002, .inr (.inl (fun _ => 0)))), (q_9, .inl (cA_10, 39, .inl (fun _ => 0))), (q_11, .inl (cA_12, 4, .inl (fun _ => 0)))] H := hP
  have hD : va_D A [(h0, .inr (9, [.ref q_1, .ref q_3, .ref q_5, .ref q_7, .ref q_9, .ref q_11, .int 0, .int 0, .int 0, .int 0, .int 0])), (q_1, .inl (cA_2, 4000, .inl (fun _ => 0))), (q_3, .inl (cA_4, 4002, .inl (fun _ => 0))), (q_5, .inl (cA_6, 4002, .inl (fun _ => 0))), (q_7, .inl (cA_8, 4002, .inr (.inl (fun _ => 0)))), (q_9, .inl (cA_10, 39, .inl (fun _ => 0))), (q_11, .inl (cA_12, 4, .inl (fun _ => 0)))] := hD
  refine lv_iconst (v := 0) hx hb dX9_init_55 (by decide) ?_
  refine lv_istore_n (lv' := [(1, .int 0), (0, .ref h0)]) hx hb dX9_init_56 rfl hl (by decide) rfl (fun ls hl => ?_)
  refine lv_iconst (v := 0) hx hb dX9_init_57 (by decide) ?_
  refine lv_istore_n (lv' := [(2, .int 0), (1, .int 0), (0, .ref h0)]) hx hb dX9_init_58 rfl hl (by decide) rfl (fun ls hl => ?_)
  have hP := hP.sub (ws' := [(h0, .inr (9, [.ref q_1, .ref q_3, .ref q_5, .ref q_7, .ref q_9, .ref q_11, .int 0, .int 0, .int 0, .int 0, .int 0])), (q_1, .inl (cA_2, 4000, .inl (fun _ => 0))), (q_3, .inl (cA_4, 4002, .inl (fun _ => 0))), (q_5, .inl (cA_6, 4002, .inl (fun _ => 0))), (q_7, .inl (cA_8, 4002, .inr (.inl (fun _ => 0)))), (q_9, .inl (cA_10, 39, .inl (fun _ => 0)))]) [0, 1, 2, 3, 4, 5] rfl
  have hD := hD.sub (ws' := [(h0, .inr (9, [.ref q_1, .ref q_3, .ref q_5, .ref q_7, .ref q_9, .ref q_11, .int 0, .int 0, .int 0, .int 0, .int 0])), (q_1, .inl (cA_2, 4000, .inl (fun _ => 0))), (q_3, .inl (cA_4, 4002, .inl (fun _ => 0))), (q_5, .inl (cA_6, 4002, .inl (fun _ => 0))), (q_7, .inl (cA_8, 4002, .inr (.inl (fun _ => 0)))), (q_9, .inl (cA_10, 39, .inl (fun _ => 0)))]) [0, 1, 2, 3, 4, 5] (by decide) rfl
  have hK := hK.sub (tys' := [(cA_2, .byte), (cA_4, .int), (cA_6, .int), (cA_8, .long), (cA_10, .int)]) [0, 1, 2, 3, 4] rfl
  refine W.widen (k := 6) (n := 16049) (by omega) (by omega) ?_
  refine lp_tapeOut hn hx hb hml hown hts hA hR hst hK (fun g j k H locs ls hP hD hS hl => ?_) 39 0 0 (by omega) (by omega) _ _ _ ls hP hD hS (lv_sub hl [2, 1, 0] rfl)
  have hP9 := hP.sub (ws' := [(h0, .inr (9, [.ref q_1, .ref q_3, .ref q_5, .ref q_7, .ref q_9, .ref q_11, .int 0, .int 0, .int 0, .int 0, .int 0])), (q_1, .inl (cA_2, 4000, .inl (fun _ => 0))), (q_3, .inl (cA_4, 4002, .inl (fun _ => 0))), (q_5, .inl (cA_6, 4002, .inl (fun _ => 0))), (q_7, .inl (cA_8, 4002, .inr (.inl (fun _ => 0))))]) [0, 1, 2, 3, 4] rfl
  have hD9 := hD.sub (ws' := [(h0, .inr (9, [.ref q_1, .ref q_3, .ref q_5, .ref q_7, .ref q_9, .ref q_11, .int 0, .int 0, .int 0, .int 0, .int 0])), (q_1, .inl (cA_2, 4000, .inl (fun _ => 0))), (q_3, .inl (cA_4, 4002, .inl (fun _ => 0))), (q_5, .inl (cA_6, 4002, .inl (fun _ => 0))), (q_7, .inl (cA_8, 4002, .inr (.inl (fun _ => 0))))]) [0, 1, 2, 3, 4] (by decide) rfl
  have hK9 := hK.sub (tys' := [(cA_2, .byte), (cA_4, .int), (cA_6, .int), (cA_8, .long)]) [0, 1, 2, 3] rfl
  refine W.widen (k := 6) (n := 16049) (by omega) (by omega) ?_
  exact W.vret hx hb hr (fun t ht hW => ⟨⟨(), rfl, trivial, q_1, q_3, q_5, q_7, q_9, q_11, cA_2, cA_4, cA_6, cA_8, by rw [ht]; exact hP9, va_K.moved hW.alike hK9, hD9⟩, hS.F ht⟩) hS.2.2 dX9_init_107
