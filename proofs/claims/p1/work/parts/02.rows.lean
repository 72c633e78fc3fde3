set_option maxHeartbeats 1000000 in
set_option maxRecDepth 100000 in
/-- Row(N): a row of N zeros, empty -/
theorem c_Row_init (l : Launch) (dC : Nat → ClassId) (dI : Nat → Nat → Nat) (sz : Nat) (h0 N : Nat) (x : Int32) (hx0 : ¬ x < 0) (hx1 : x.toNatClampNeg = N) (hN : N ≤ 2000) : Met l yX6_init wsX6_init ({ frames := 1, cells := 1, slots := N, locals := 12 }) (va_Pc [.ref h0, .int x] (fun U => U.heap.size = sz ∧ va_P (dC, dI) vwCl [(h0, .inr (6, [.null, .int 0]))] U.heap ∧ va_K (dC, dI) vwCl [] U ∧ va_D (fun _ => True) [(h0, .inr (6, [.null, .int 0]))])) (va_Qv (fun _ : Unit => True) (fun _ t => ∃ (q : Nat) (cA : ClassId), va_P (dC, dI) vwCl [(h0, .inr (6, [.ref q, .int 0])), (q, .inl (cA, N, .inl (fun _ => 0)))] t.heap ∧ va_K (dC, dI) vwCl [(cA, .int)] t ∧ va_D (va_A [(h0, .inr (6, [.null, .int 0]))] sz) [(h0, .inr (6, [.ref q, .int 0])), (q, .inl (cA, N, .inl (fun _ => 0)))]) (va_A [(h0, .inr (6, [.null, .int 0]))] sz)) (1) (N) (va_A [(h0, .inr (6, [.null, .int 0]))] sz) := by
  refine Met.ofW (cc := cX6_init) (maxL := 2) (ret := none) (by decide) rfl ?_
  intro p e s m args below meth c s₁ B hml hv
  obtain ⟨rfl, hsz, hP, hK, hD0⟩ := hv
  have hx := B.exec
  have hb := B.bytes
  have hr := B.returns
  have hts := atoms_spec (ws := wsX6_init) B.pre
  have hown : s.vm.findClass RX6 = some m.cls := findClass_of_methodNamed B.named
  have hlocks := B.notSynchronized
  have hin : meth.name = "<init>" := (name_of_methodNamed B.named B.method).1
  subst hsz
  have hD := hD0.self (sz := s.heap.size)
  generalize hAe : va_A [(h0, .inr (6, [.null, .int 0]))] s.heap.size = A at hD ⊢
  have hA : ∀ q : Nat, s.heap.size ≤ q → A q := fun q h => by rw [← hAe]; exact Or.inr h
  have hS : va_S A s.heap s.heap [] := va_S.rf
  have hl := lv_entry ([.ref h0, .int x]) (n := 2) (Nat.le_of_ble_eq_true rfl)
  rw [lg_entry_eq]
  generalize (lg_sl ([.ref h0, .int x]) ++ List.replicate (2 - (lg_sl ([.ref h0, .int x])).length) Slot.unset).toArray = ls at hl ⊢
  have hl : lv_has ls 2 [(0, .ref h0), (1, .int x)] := hl
  refine lv_aload_n hx hb dX6_init_0 rfl (lv_at hl 0 rfl) ?_
  refine W.objInit hx hb hown (hts (.methodLink RX6 1 objectInit) (by decide +kernel)) (hts (.instanceMethod objectInit) (by decide +kernel)) (hts (.code objectInit ⟨#[0xb1]⟩ 1 none) (by decide +kernel)) rfl (by rw [hml]; exact hl.1) rfl dX6_init_1 (Nat.le_of_ble_eq_true rfl) (Nat.le_of_ble_eq_true rfl) ?_
  refine W.eq (g2 := F0 m 4 ls []) rfl ?_
  refine lv_aload_n hx hb dX6_init_4 rfl (lv_at hl 0 rfl) ?_
  refine lv_iload_n hx hb dX6_init_5 rfl (lv_at hl 1 rfl) ?_
  have hby : N * componentBytes (.int) ≤ 536870912 := by rw [show componentBytes .int = 4 from rfl]; omega
  refine va_newa (atype := .int) (n := x) (N' := N) (ty := .int) (a0 := (N, .inl (fun _ => 0))) hx hb (hts (.arrayClass .int) (by decide +kernel)) rfl hK hP hD hS hA (fun _ => rfl) hx0 hx1 hby (show 0 + 1 ≤ 1 by omega) (show 0 + N ≤ N by omega) dX6_init_6 (fun q_1 cA_2 H hK hP hD hS => ?_)
  have hP : va_P (dC, dI) vwCl [(h0, .inr (6, [.null, .int 0])), (q_1, .inl (cA_2, N, .inl (fun _ => 0)))] H := hP
  have hD : va_D A [(h0, .inr (6, [.null, .int 0])), (q_1, .inl (cA_2, N, .inl (fun _ => 0)))] := hD
  have hK : va_K (dC, dI) vwCl [(cA_2, .int)] s := hK
  refine W.widen (k := 1) (n := N) (by omega) (by omega) ?_
  refine va_putF (D := (dC, dI)) (ci := 6) (v := .ref q_1) (ty := .array .int) (C := RX6) (T := TX6) (N := 2) hx hb hts (by decide +kernel) tyX6 tyX6_ok nmX6 hown hK hP hD hS 0 rfl rfl 0 (by decide) (hts (.fieldLink RX6 7 "ProofBench$Row" "codes" "[I") (by decide +kernel)) (fun _ h9 => h9) rfl hin rfl (by decide +kernel) rfl rfl (Nat.le_of_ble_eq_true rfl) dX6_init_8 (fun H locs hP hD hS => ?_)
  have hP : va_P (dC, dI) vwCl [(h0, .inr (6, [.ref q_1, .int 0])), (q_1, .inl (cA_2, N, .inl (fun _ => 0)))] H := hP
  have hD : va_D A [(h0, .inr (6, [.ref q_1, .int 0])), (q_1, .inl (cA_2, N, .inl (fun _ => 0)))] := hD
  have hP9 := hP.sub (ws' := [(h0, .inr (6, [.ref q_1, .int 0])), (q_1, .inl (cA_2, N, .inl (fun _ => 0)))]) [0, 1] rfl
  have hD9 := hD.sub (ws' := [(h0, .inr (6, [.ref q_1, .int 0])), (q_1, .inl (cA_2, N, .inl (fun _ => 0)))]) [0, 1] (by decide) rfl
  have hK9 := hK.sub (tys' := [(cA_2, .int)]) [0] rfl
  refine W.widen (k := 1) (n := N) (by omega) (by omega) ?_
  exact W.vret hx hb hr (fun t ht hW => ⟨⟨(), rfl, trivial, q_1, cA_2, by rw [ht]; exact hP9, va_K.moved hW.alike hK9, hD9⟩, hS.F ht⟩) hS.2.2 dX6_init_11
set_option maxHeartbeats 1000000 in
set_option maxRecDepth 100000 in
/-- Thing(codes, free) -/
theorem c_Thing_init (l : Launch) (dC : Nat → ClassId) (dI : Nat → Nat → Nat) (sz : Nat) (h0 h1 : Nat) (f : Int32) : Met l yX10_init wsX10_init ({ frames := 1, cells := 0, slots := 0, locals := 12 }) (va_Pc [.ref h0, .ref h1, .int f] (fun U => U.heap.size = sz ∧ va_P (dC, dI) vwCl [(h0, .inr (10, [.null, .int 0]))] U.heap ∧ va_K (dC, dI) vwCl [] U ∧ va_D (fun _ => True) [(h0, .inr (10, [.null, .int 0]))])) (va_Qv (fun _ : Unit => True) (fun _ t => va_P (dC, dI) vwCl [(h0, .inr (10, [.ref h1, .int f]))] t.heap ∧ va_K (dC, dI) vwCl [] t ∧ va_D (va_A [(h0, .inr (10, [.null, .int 0]))] sz) [(h0, .inr (10, [.ref h1, .int f]))]) (va_A [(h0, .inr (10, [.null, .int 0]))] sz)) (0) (0) (va_A [(h0, .inr (10, [.null, .int 0]))] sz) := by
  refine Met.ofW (cc := cX10_init) (maxL := 3) (ret := none) (by decide) rfl ?_
  intro p e s m args below meth c s₁ B hml hv
  obtain ⟨rfl, hsz, hP, hK, hD0⟩ := hv
  have hx := B.exec
  have hb := B.bytes
  have hr := B.returns
  have hts := atoms_spec (ws := wsX10_init) B.pre
  have hown : s.vm.findClass RX10 = some m.cls := findClass_of_methodNamed B.named
  have hlocks := B.notSynchronized
  have hin : meth.name = "<init>" := (name_of_methodNamed B.named B.method).1
  subst hsz
  have hD := hD0.self (sz := s.heap.size)
  generalize hAe : va_A [(h0, .inr (10, [.null, .int 0]))] s.heap.size = A at hD ⊢
  have hA : ∀ q : Nat, s.heap.size ≤ q → A q := fun q h => by rw [← hAe]; exact Or.inr h
  have hS : va_S A s.heap s.heap [] := va_S.rf
  have hl := lv_entry ([.ref h0, .ref h1, .int f]) (n := 3) (Nat.le_of_ble_eq_true rfl)
  rw [lg_entry_eq]
  generalize (lg_sl ([.ref h0, .ref h1, .int f]) ++ List.replicate (3 - (lg_sl ([.ref h0, .ref h1, .int f])).length) Slot.unset).toArray = ls at hl ⊢
  have hl : lv_has ls 3 [(0, .ref h0), (1, .ref h1), (2, .int f)] := hl
  refine lv_aload_n hx hb dX10_init_0 rfl (lv_at hl 0 rfl) ?_
  refine W.objInit hx hb hown (hts (.methodLink RX10 3 objectInit) (by decide +kernel)) (hts (.instanceMethod objectInit) (by decide +kernel)) (hts (.code objectInit ⟨#[0xb1]⟩ 1 none) (by decide +kernel)) rfl (by rw [hml]; exact hl.1) rfl dX10_init_1 (Nat.le_of_ble_eq_true rfl) (Nat.le_of_ble_eq_true rfl) ?_
  refine W.eq (g2 := F0 m 4 ls []) rfl ?_
  refine lv_aload_n hx hb dX10_init_4 rfl (lv_at hl 0 rfl) ?_
  refine lv_aload_n hx hb dX10_init_5 rfl (lv_at hl 1 rfl) ?_
  refine va_putF (D := (dC, dI)) (ci := 10) (v := .ref h1) (ty := .array .int) (C := RX10) (T := TX10) (N := 2) hx hb hts (by decide +kernel) tyX10 tyX10_ok nmX10 hown hK hP hD hS 0 rfl rfl 0 (by decide) (hts (.fieldLink RX10 9 "ProofBench$Thing" "codes" "[I") (by decide +kernel)) (fun _ h9 => h9) rfl hin rfl (by decide +kernel) rfl rfl (Nat.le_of_ble_eq_true rfl) dX10_init_6 (fun H locs hP hD hS => ?_)
  have hP : va_P (dC, dI) vwCl [(h0, .inr (10, [.ref h1, .int 0]))] H := hP
  have hD : va_D A [(h0, .inr (10, [.ref h1, .int 0]))] := hD
  refine lv_aload_n hx hb dX10_init_9 rfl (lv_at hl 0 rfl) ?_
  refine lv_iload_n hx hb dX10_init_10 rfl (lv_at hl 2 rfl) ?_
  refine va_putF (D := (dC, dI)) (ci := 10) (v := .int f) (ty := .int) (C := RX10) (T := TX10) (N := 2) hx hb hts (by decide +kernel) tyX10 tyX10_ok nmX10 hown hK hP hD hS 0 rfl rfl 1 (by decide) (hts (.fieldLink RX10 15 "ProofBench$Thing" "free" "I") (by decide +kernel)) (fun _ h9 => h9) rfl hin rfl (by decide +kernel) rfl rfl (Nat.le_of_ble_eq_true rfl) dX10_init_11 (fun H locs hP hD hS => ?_)
  have hP : va_P (dC, dI) vwCl [(h0, .inr (10, [.ref h1, .int f]))] H := hP
  have hD : va_D A [(h0, .inr (10, [.ref h1, .int f]))] := hD
  have hP9 := hP.sub (ws' := [(h0, .inr (10, [.ref h1, .int f]))]) [0] rfl
  have hD9 := hD.sub (ws' := [(h0, .inr (10, [.ref h1, .int f]))]) [0] (by decide) rfl
  have hK9 := hK.sub (tys' := []) [] rfl
  refine W.widen (k := 0) (n := 0) (by omega) (by omega) ?_
  exact W.vret hx hb hr (fun t ht hW => ⟨⟨(), rfl, trivial, by rw [ht]; exact hP9, va_K.moved hW.alike hK9, hD9⟩, hS.F ht⟩) hS.2.2 dX10_init_14
set_option maxHeartbeats 1000000 in
set_option maxRecDepth 100000 in
/-- Step(shows, from, leaning, induced) -/
theorem c_Step_init (l : Launch) (dC : Nat → ClassId) (dI : Nat → Nat → Nat) (sz : Nat) (h0 h1 h2 : Nat) (g : Int64) : Met l yX8_init wsX8_init ({ frames := 1, cells := 0, slots := 0, locals := 12 }) (va_Pc [.ref h0, .ref h1, .ref h2, .long g, .int 0] (fun U => U.heap.size = sz ∧ va_P (dC, dI) vwCl [(h0, .inr (8, [.null, .null, .long 0, .int 0]))] U.heap ∧ va_K (dC, dI) vwCl [] U ∧ va_D (fun _ => True) [(h0, .inr (8, [.null, .null, .long 0, .int 0]))])) (va_Qv (fun _ : Unit => True) (fun _ t => va_P (dC, dI) vwCl [(h0, .inr (8, [.ref h1, .ref h2, .long g, .int 0]))] t.heap ∧ va_K (dC, dI) vwCl [] t ∧ va_D (va_A [(h0, .inr (8, [.null, .null, .long 0, .int 0]))] sz) [(h0, .inr (8, [.ref h1, .ref h2, .long g, .int 0]))]) (va_A [(h0, .inr (8, [.null, .null, .long 0, .int 0]))] sz)) (0) (0) (va_A [(h0, .inr (8, [.null, .null, .long 0, .int 0]))] sz) := by
  refine Met.ofW (cc := cX8_init) (maxL := 6) (ret := none) (by decide) rfl ?_
  intro p e s m args below meth c s₁ B hml hv
  obtain ⟨rfl, hsz, hP, hK, hD0⟩ := hv
  have hx := B.exec
  have hb := B.bytes
  have hr := B.returns
  have hts := atoms_spec (ws := wsX8_init) B.pre
  have hown : s.vm.findClass RX8 = some m.cls := findClass_of_methodNamed B.named
  have hlocks := B.notSynchronized
  have hin : meth.name = "<init>" := (name_of_methodNamed B.named B.method).1
  subst hsz
  have hD := hD0.self (sz := s.heap.size)
  generalize hAe : va_A [(h0, .inr (8, [.null, .null, .long 0, .int 0]))] s.heap.size = A at hD ⊢
  have hA : ∀ q : Nat, s.heap.size ≤ q → A q := fun q h => by rw [← hAe]; exact Or.inr h
  have hS : va_S A s.heap s.heap [] := va_S.rf
  have hl := lv_entry ([.ref h0, .ref h1, .ref h2, .long g, .int 0]) (n := 6) (Nat.le_of_ble_eq_true rfl)
  rw [lg_entry_eq]
  generalize (lg_sl ([.ref h0, .ref h1, .ref h2, .long g, .int 0]) ++ List.replicate (6 - (lg_sl ([.ref h0, .ref h1, .ref h2, .long g, .int 0])).length) Slot.unset).toArray = ls at hl ⊢
  have hl : lv_has ls 6 [(0, .ref h0), (1, .ref h1), (2, .ref h2), (3, .long g), (5, .int 0)] := hl
  refine lv_aload_n hx hb dX8_init_0 rfl (lv_at hl 0 rfl) ?_
  refine W.objInit hx hb hown (hts (.methodLink RX8 1 objectInit) (by decide +kernel)) (hts (.instanceMethod objectInit) (by decide +kernel)) (hts (.code objectInit ⟨#[0xb1]⟩ 1 none) (by decide +kernel)) rfl (by rw [hml]; exact hl.1) rfl dX8_init_1 (Nat.le_of_ble_eq_true rfl) (Nat.le_of_ble_eq_true rfl) ?_
  refine W.eq (g2 := F0 m 4 ls []) rfl ?_
  refine lv_aload_n hx hb dX8_init_4 rfl (lv_at hl 0 rfl) ?_
  refine lv_aload_n hx hb dX8_init_5 rfl (lv_at hl 1 rfl) ?_
  refine va_putF (D := (dC, dI)) (ci := 8) (v := .ref h1) (ty := .object "ProofBench$Thing") (C := RX8) (T := TX8) (N := 4) hx hb hts (by decide +kernel) tyX8 tyX8_ok nmX8 hown hK hP hD hS 0 rfl rfl 0 (by decide) (hts (.fieldLink RX8 7 "ProofBench$Step" "shows" "LProofBench$Thing;") (by decide +kernel)) (fun _ h9 => h9) rfl hin rfl (by decide +kernel) rfl rfl (Nat.le_of_ble_eq_true rfl) dX8_init_6 (fun H locs hP hD hS => ?_)
  have hP : va_P (dC, dI) vwCl [(h0, .inr (8, [.ref h1, .null, .long 0, .int 0]))] H := hP
  have hD : va_D A [(h0, .inr (8, [.ref h1, .null, .long 0, .int 0]))] := hD
  refine lv_aload_n hx hb dX8_init_9 rfl (lv_at hl 0 rfl) ?_
  refine lv_aload_n hx hb dX8_init_10 rfl (lv_at hl 2 rfl) ?_
  refine va_putF (D := (dC, dI)) (ci := 8) (v := .ref h2) (ty := .array (.object "ProofBench$Thing")) (C := RX8) (T := TX8) (N := 4) hx hb hts (by decide +kernel) tyX8 tyX8_ok nmX8 hown hK hP hD hS 0 rfl rfl 1 (by decide) (hts (.fieldLink RX8 13 "ProofBench$Step" "from" "[LProofBench$Thing;") (by decide +kernel)) (fun _ h9 => h9) rfl hin rfl (by decide +kernel) rfl rfl (Nat.le_of_ble_eq_true rfl) dX8_init_11 (fun H locs hP hD hS => ?_)
  have hP : va_P (dC, dI) vwCl [(h0, .inr (8, [.ref h1, .ref h2, .long 0, .int 0]))] H := hP
  have hD : va_D A [(h0, .inr (8, [.ref h1, .ref h2, .long 0, .int 0]))] := hD
  refine lv_aload_n hx hb dX8_init_14 rfl (lv_at hl 0 rfl) ?_
  refine lv_lload_n hx hb dX8_init_15 rfl (lv_at hl 3 rfl) ?_
  refine va_putF (D := (dC, dI)) (ci := 8) (v := .long g) (ty := .long) (C := RX8) (T := TX8) (N := 4) hx hb hts (by decide +kernel) tyX8 tyX8_ok nmX8 hown hK hP hD hS 0 rfl rfl 2 (by decide) (hts (.fieldLink RX8 17 "ProofBench$Step" "leaning" "J") (by decide +kernel)) (fun _ h9 => h9) rfl hin rfl (by decide +kernel) rfl rfl (Nat.le_of_ble_eq_true rfl) dX8_init_16 (fun H locs hP hD hS => ?_)
  have hP : va_P (dC, dI) vwCl [(h0, .inr (8, [.ref h1, .ref h2, .long g, .int 0]))] H := hP
  have hD : va_D A [(h0, .inr (8, [.ref h1, .ref h2, .long g, .int 0]))] := hD
  refine lv_aload_n hx hb dX8_init_19 rfl (lv_at hl 0 rfl) ?_
  refine lv_iload hx hb dX8_init_20 (lv_at hl 4 rfl) ?_
  refine va_putF (D := (dC, dI)) (ci := 8) (v := .int 0) (ty := .boolean) (C := RX8) (T := TX8) (N := 4) hx hb hts (by decide +kernel) tyX8 tyX8_ok nmX8 hown hK hP hD hS 0 rfl rfl 3 (by decide) (hts (.fieldLink RX8 21 "ProofBench$Step" "induced" "Z") (by decide +kernel)) (fun _ h9 => h9) rfl hin rfl (by decide +kernel) rfl rfl (Nat.le_of_ble_eq_true rfl) dX8_init_22 (fun H locs hP hD hS => ?_)
  have hP : va_P (dC, dI) vwCl [(h0, .inr (8, [.ref h1, .ref h2, .long g, .int 0]))] H := hP
  have hD : va_D A [(h0, .inr (8, [.ref h1, .ref h2, .long g, .int 0]))] := hD
  have hP9 := hP.sub (ws' := [(h0, .inr (8, [.ref h1, .ref h2, .long g, .int 0]))]) [0] rfl
  have hD9 := hD.sub (ws' := [(h0, .inr (8, [.ref h1, .ref h2, .long g, .int 0]))]) [0] (by decide) rfl
  have hK9 := hK.sub (tys' := []) [] rfl
  refine W.widen (k := 0) (n := 0) (by omega) (by omega) ?_
  exact W.vret hx hb hr (fun t ht hW => ⟨⟨(), rfl, trivial, by rw [ht]; exact hP9, va_K.moved hW.alike hK9, hD9⟩, hS.F ht⟩) hS.2.2 dX8_init_25
set_option maxHeartbeats 1000000 in
set_option maxRecDepth 100000 in
/-- Out(names): nothing is out -/
theorem c_Out_init (l : Launch) (dC : Nat → ClassId) (dI : Nat → Nat → Nat) (sz : Nat) (h0 a_n : Nat) : Met l yX4_init wsX4_init ({ frames := 1, cells := 3, slots := 20052, locals := 12 }) (va_Pc [.ref h0, .ref a_n] (fun U => U.heap.size = sz ∧ va_P (dC, dI) vwCl [(h0, .inr (4, [.null, .null, .null, .null, .int 0]))] U.heap ∧ va_K (dC, dI) vwCl [] U ∧ va_D (fun _ => True) [(h0, .inr (4, [.null, .null, .null, .null, .int 0]))])) (va_Qv (fun _ : Unit => True) (fun _ t => ∃ (q_1 : Nat) (q_3 : Nat) (q_5 : Nat), va_P (dC, dI) vwCl [(h0, .inr (4, [.ref a_n, .ref q_1, .ref q_3, .ref q_5, .int 0]))] t.heap ∧ va_K (dC, dI) vwCl [] t ∧ va_D (va_A [(h0, .inr (4, [.null, .null, .null, .null, .int 0]))] sz) [(h0, .inr (4, [.ref a_n, .ref q_1, .ref q_3, .ref q_5, .int 0]))]) (va_A [(h0, .inr (4, [.null, .null, .null, .null, .int 0]))] sz)) (3) (20052) (va_A [(h0, .inr (4, [.null, .null, .null, .null, .int 0]))] sz) := by
  refine Met.ofW (cc := cX4_init) (maxL := 2) (ret := none) (by decide) rfl ?_
  intro p e s m args below meth c s₁ B hml hv
  obtain ⟨rfl, hsz, hP, hK, hD0⟩ := hv
  have hx := B.exec
  have hb := B.bytes
  have hr := B.returns
  have hts := atoms_spec (ws := wsX4_init) B.pre
  have hown : s.vm.findClass RX4 = some m.cls := findClass_of_methodNamed B.named
  have hlocks := B.notSynchronized
  have hin : meth.name = "<init>" := (name_of_methodNamed B.named B.method).1
  subst hsz
  have hD := hD0.self (sz := s.heap.size)
  generalize hAe : va_A [(h0, .inr (4, [.null, .null, .null, .null, .int 0]))] s.heap.size = A at hD ⊢
  have hA : ∀ q : Nat, s.heap.size ≤ q → A q := fun q h => by rw [← hAe]; exact Or.inr h
  have hS : va_S A s.heap s.heap [] := va_S.rf
  have hl := lv_entry ([.ref h0, .ref a_n]) (n := 2) (Nat.le_of_ble_eq_true rfl)
  rw [lg_entry_eq]
  generalize (lg_sl ([.ref h0, .ref a_n]) ++ List.replicate (2 - (lg_sl ([.ref h0, .ref a_n])).length) Slot.unset).toArray = ls at hl ⊢
  have hl : lv_has ls 2 [(0, .ref h0), (1, .ref a_n)] := hl
  refine lv_aload_n hx hb dX4_init_0 rfl (lv_at hl 0 rfl) ?_
  refine W.objInit hx hb hown (hts (.methodLink RX4 3 objectInit) (by decide +kernel)) (hts (.instanceMethod objectInit) (by decide +kernel)) (hts (.code objectInit ⟨#[0xb1]⟩ 1 none) (by decide +kernel)) rfl (by rw [hml]; exact hl.1) rfl dX4_init_1 (Nat.le_of_ble_eq_true rfl) (Nat.le_of_ble_eq_true rfl) ?_
  refine W.eq (g2 := F0 m 4 ls []) rfl ?_
  refine lv_aload_n hx hb dX4_init_4 rfl (lv_at hl 0 rfl) ?_
  refine lv_sipush (v := 20000) hx hb dX4_init_5 (by decide) ?_
  refine va_newa (atype := .int) (n := 20000) (N' := 20000) (ty := .int) (a0 := (20000, .inl (fun _ => 0))) hx hb (hts (.arrayClass .int) (by decide +kernel)) rfl hK hP hD hS hA (fun _ => rfl) (by decide) (by decide) (by decide) (show 0 + 1 ≤ 3 by omega) (show 0 + 20000 ≤ 20052 by omega) dX4_init_8 (fun q_1 cA_2 H hK hP hD hS => ?_)
  have hP : va_P (dC, dI) vwCl [(h0, .inr (4, [.null, .null, .null, .null, .int 0])), (q_1, .inl (cA_2, 20000, .inl (fun _ => 0)))] H := hP
  have hD : va_D A [(h0, .inr (4, [.null, .null, .null, .null, .int 0])), (q_1, .inl (cA_2, 20000, .inl (fun _ => 0)))] := hD
  have hK : va_K (dC, dI) vwCl [(cA_2, .int)] s := hK
  refine W.widen (k := 1) (n := 20000) (by omega) (by omega) ?_
  refine va_putF (D := (dC, dI)) (ci := 4) (v := .ref q_1) (ty := .array .int) (C := RX4) (T := TX4) (N := 5) hx hb hts (by decide +kernel) tyX4 tyX4_ok nmX4 hown hK hP hD hS 0 rfl rfl 1 (by decide) (hts (.fieldLink RX4 11 "ProofBench$Out" "numbers" "[I") (by decide +kernel)) (fun _ h9 => h9) rfl hin rfl (by decide +kernel) rfl rfl (Nat.le_of_ble_eq_true rfl) dX4_init_10 (fun H locs hP hD hS => ?_)
  have hP : va_P (dC, dI) vwCl [(h0, .inr (4, [.null, .ref q_1, .null, .null, .int 0])), (q_1, .inl (cA_2, 20000, .inl (fun _ => 0)))] H := hP
  have hD : va_D A [(h0, .inr (4, [.null, .ref q_1, .null, .null, .int 0])), (q_1, .inl (cA_2, 20000, .inl (fun _ => 0)))] := hD
  refine lv_aload_n hx hb dX4_init_13 rfl (lv_at hl 0 rfl) ?_
  refine lv_bipush (v := 40) hx hb dX4_init_14 (by decide) ?_
  refine va_newa (atype := .int) (n := 40) (N' := 40) (ty := .int) (a0 := (40, .inl (fun _ => 0))) hx hb (hts (.arrayClass .int) (by decide +kernel)) rfl hK hP hD hS hA (fun _ => rfl) (by decide) (by decide) (by decide) (show 1 + 1 ≤ 3 by omega) (show 20000 + 40 ≤ 20052 by omega) dX4_init_16 (fun q_3 cA_4 H hK hP hD hS => ?_)
  have hP : va_P (dC, dI) vwCl [(h0, .inr (4, [.null, .ref q_1, .null, .null, .int 0])), (q_1, .inl (cA_2, 20000, .inl (fun _ => 0))), (q_3, .inl (cA_4, 40, .inl (fun _ => 0)))] H := hP
  have hD : va_D A [(h0, .inr (4, [.null, .ref q_1, .null, .null, .int 0])), (q_1, .inl (cA_2, 20000, .inl (fun _ => 0))), (q_3, .inl (cA_4, 40, .inl (fun _ => 0)))] := hD
  have hK : va_K (dC, dI) vwCl [(cA_2, .int), (cA_4, .int)] s := hK
  refine W.widen (k := 2) (n := 20040) (by omega) (by omega) ?_
  refine va_putF (D := (dC, dI)) (ci := 4) (v := .ref q_3) (ty := .array .int) (C := RX4) (T := TX4) (N := 5) hx hb hts (by decide +kernel) tyX4 tyX4_ok nmX4 hown hK hP hD hS 0 rfl rfl 2 (by decide) (hts (.fieldLink RX4 15 "ProofBench$Out" "lefts" "[I") (by decide +kernel)) (fun _ h9 => h9) rfl hin rfl (by decide +kernel) rfl rfl (Nat.le_of_ble_eq_true rfl) dX4_init_18 (fun H locs hP hD hS => ?_)
  have hP : va_P (dC, dI) vwCl [(h0, .inr (4, [.null, .ref q_1, .ref q_3, .null, .int 0])), (q_1, .inl (cA_2, 20000, .inl (fun _ => 0))), (q_3, .inl (cA_4, 40, .inl (fun _ => 0)))] H := hP
  have hD : va_D A [(h0, .inr (4, [.null, .ref q_1, .ref q_3, .null, .int 0])), (q_1, .inl (cA_2, 20000, .inl (fun _ => 0))), (q_3, .inl (cA_4, 40, .inl (fun _ => 0)))] := hD
  refine lv_aload_n hx hb dX4_init_21 rfl (lv_at hl 0 rfl) ?_
  refine lv_bipush (v := 12) hx hb dX4_init_22 (by decide) ?_
  refine va_newa (atype := .int) (n := 12) (N' := 12) (ty := .int) (a0 := (12, .inl (fun _ => 0))) hx hb (hts (.arrayClass .int) (by decide +kernel)) rfl hK hP hD hS hA (fun _ => rfl) (by decide) (by decide) (by decide) (show 2 + 1 ≤ 3 by omega) (show 20040 + 12 ≤ 20052 by omega) dX4_init_24 (fun q_5 cA_6 H hK hP hD hS => ?_)
  have hP : va_P (dC, dI) vwCl [(h0, .inr (4, [.null, .ref q_1, .ref q_3, .null, .int 0])), (q_1, .inl (cA_2, 20000, .inl (fun _ => 0))), (q_3, .inl (cA_4, 40, .inl (fun _ => 0))), (q_5, .inl (cA_6, 12, .inl (fun _ => 0)))] H := hP
  have hD : va_D A [(h0, .inr (4, [.null, .ref q_1, .ref q_3, .null, .int 0])), (q_1, .inl (cA_2, 20000, .inl (fun _ => 0))), (q_3, .inl (cA_4, 40, .inl (fun _ => 0))), (q_5, .inl (cA_6, 12, .inl (fun _ => 0)))] := hD
  have hK : va_K (dC, dI) vwCl [(cA_2, .int), (cA_4, .int), (cA_6, .int)] s := hK
  refine W.widen (k := 3) (n := 20052) (by omega) (by omega) ?_
  refine va_putF (D := (dC, dI)) (ci := 4) (v := .ref q_5) (ty := .array .int) (C := RX4) (T := TX4) (N := 5) hx hb hts (by decide +kernel) tyX4 tyX4_ok nmX4 hown hK hP hD hS 0 rfl rfl 3 (by decide) (hts (.fieldLink RX4 20 "ProofBench$Out" "turned" "[I") (by decide +kernel)) (fun _ h9 => h9) rfl hin rfl (by decide +kernel) rfl rfl (Nat.le_of_ble_eq_true rfl) dX4_init_26 (fun H locs hP hD hS => ?_)
  have hP : va_P (dC, dI) vwCl [(h0, .inr (4, [.null, .ref q_1, .ref q_3, .ref q_5, .int 0])), (q_1, .inl (cA_2, 20000, .inl (fun _ => 0))), (q_3, .inl (cA_4, 40, .inl (fun _ => 0))), (q_5, .inl (cA_6, 12, .inl (fun _ => 0)))] H := hP
  have hD : va_D A [(h0, .inr (4, [.null, .ref q_1, .ref q_3, .ref q_5, .int 0])), (q_1, .inl (cA_2, 20000, .inl (fun _ => 0))), (q_3, .inl (cA_4, 40, .inl (fun _ => 0))), (q_5, .inl (cA_6, 12, .inl (fun _ => 0)))] := hD
  refine lv_aload_n hx hb dX4_init_29 rfl (lv_at hl 0 rfl) ?_
  refine lv_aload_n hx hb dX4_init_30 rfl (lv_at hl 1 rfl) ?_
  refine va_putF (D := (dC, dI)) (ci := 4) (v := .ref a_n) (ty := .object "ProofBench$Names") (C := RX4) (T := TX4) (N := 5) hx hb hts (by decide +kernel) tyX4 tyX4_ok nmX4 hown hK hP hD hS 0 rfl rfl 0 (by decide) (hts (.fieldLink RX4 23 "ProofBench$Out" "names" "LProofBench$Names;") (by decide +kernel)) (fun _ h9 => h9) rfl hin rfl (by decide +kernel) rfl rfl (Nat.le_of_ble_eq_true rfl) dX4_init_31 (fun H locs hP hD hS => ?_)
  have hP : va_P (dC, dI) vwCl [(h0, .inr (4, [.ref a_n, .ref q_1, .ref q_3, .ref q_5, .int 0])), (q_1, .inl (cA_2, 20000, .inl (fun _ => 0))), (q_3, .inl (cA_4, 40, .inl (fun _ => 0))), (q_5, .inl (cA_6, 12, .inl (fun _ => 0)))] H := hP
  have hD : va_D A [(h0, .inr (4, [.ref a_n, .ref q_1, .ref q_3, .ref q_5, .int 0])), (q_1, .inl (cA_2, 20000, .inl (fun _ => 0))), (q_3, .inl (cA_4, 40, .inl (fun _ => 0))), (q_5, .inl (cA_6, 12, .inl (fun _ => 0)))] := hD
  have hP9 := hP.sub (ws' := [(h0, .inr (4, [.ref a_n, .ref q_1, .ref q_3, .ref q_5, .int 0]))]) [0] rfl
  have hD9 := hD.sub (ws' := [(h0, .inr (4, [.ref a_n, .ref q_1, .ref q_3, .ref q_5, .int 0]))]) [0] (by decide) rfl
  have hK9 := hK.sub (tys' := []) [] rfl
  refine W.widen (k := 3) (n := 20052) (by omega) (by omega) ?_
  exact W.vret hx hb hr (fun t ht hW => ⟨⟨(), rfl, trivial, q_1, q_3, q_5, by rw [ht]; exact hP9, va_K.moved hW.alike hK9, hD9⟩, hS.F ht⟩) hS.2.2 dX4_init_34
set_option maxHeartbeats 1000000 in
set_option maxRecDepth 100000 in
/-- Forms(names) -/
theorem c_Forms_init (l : Launch) (dC : Nat → ClassId) (dI : Nat → Nat → Nat) (sz : Nat) (h0 a_n : Nat) : Met l yX0_init wsX0_init ({ frames := 1, cells := 7, slots := 1723, locals := 12 }) (va_Pc [.ref h0, .ref a_n] (fun U => U.heap.size = sz ∧ va_P (dC, dI) vwCl [(h0, .inr (0, [.null, .null, .null, .null, .int 0, .null, .null, .null, .null]))] U.heap ∧ va_K (dC, dI) vwCl [] U ∧ va_D (fun _ => True) [(h0, .inr (0, [.null, .null, .null, .null, .int 0, .null, .null, .null, .null]))])) (va_Qv (fun _ : Unit => True) (fun _ t => va_P (dC, dI) vwCl [] t.heap ∧ va_K (dC, dI) vwCl [] t ∧ va_D (va_A [(h0, .inr (0, [.null, .null, .null, .null, .int 0, .null, .null, .null, .null]))] sz) []) (va_A [(h0, .inr (0, [.null, .null, .null, .null, .int 0, .null, .null, .null, .null]))] sz)) (7) (1723) (va_A [(h0, .inr (0, [.null, .null, .null, .null, .int 0, .null, .null, .null, .null]))] sz) := by
  refine Met.ofW (cc := cX0_init) (maxL := 2) (ret := none) (by decide) rfl ?_
  intro p e s m args below meth c s₁ B hml hv
  obtain ⟨rfl, hsz, hP, hK, hD0⟩ := hv
  have hx := B.exec
  have hb := B.bytes
  have hr := B.returns
  have hts := atoms_spec (ws := wsX0_init) B.pre
  have hown : s.vm.findClass RX0 = some m.cls := findClass_of_methodNamed B.named
  have hlocks := B.notSynchronized
  have hin : meth.name = "<init>" := (name_of_methodNamed B.named B.method).1
  subst hsz
  have hD := hD0.self (sz := s.heap.size)
  generalize hAe : va_A [(h0, .inr (0, [.null, .null, .null, .null, .int 0, .null, .null, .null, .null]))] s.heap.size = A at hD ⊢
  have hA : ∀ q : Nat, s.heap.size ≤ q → A q := fun q h => by rw [← hAe]; exact Or.inr h
  have hS : va_S A s.heap s.heap [] := va_S.rf
  have hl := lv_entry ([.ref h0, .ref a_n]) (n := 2) (Nat.le_of_ble_eq_true rfl)
  rw [lg_entry_eq]
  generalize (lg_sl ([.ref h0, .ref a_n]) ++ List.replicate (2 - (lg_sl ([.ref h0, .ref a_n])).length) Slot.unset).toArray = ls at hl ⊢
  have hl : lv_has ls 2 [(0, .ref h0), (1, .ref a_n)] := hl
  refine lv_aload_n hx hb dX0_init_0 rfl (lv_at hl 0 rfl) ?_
  refine W.objInit hx hb hown (hts (.methodLink RX0 3 objectInit) (by decide +kernel)) (hts (.instanceMethod objectInit) (by decide +kernel)) (hts (.code objectInit ⟨#[0xb1]⟩ 1 none) (by decide +kernel)) rfl (by rw [hml]; exact hl.1) rfl dX0_init_1 (Nat.le_of_ble_eq_true rfl) (Nat.le_of_ble_eq_true rfl) ?_
  refine W.eq (g2 := F0 m 4 ls []) rfl ?_
  refine lv_aload_n hx hb dX0_init_4 rfl (lv_at hl 0 rfl) ?_
  refine lv_sipush (v := 400) hx hb dX0_init_5 (by decide) ?_
  refine va_newa (atype := .int) (n := 400) (N' := 400) (ty := .int) (a0 := (400, .inl (fun _ => 0))) hx hb (hts (.arrayClass .int) (by decide +kernel)) rfl hK hP hD hS hA (fun _ => rfl) (by decide) (by decide) (by decide) (show 0 + 1 ≤ 7 by omega) (show 0 + 400 ≤ 1723 by omega) dX0_init_8 (fun q_1 cA_2 H hK hP hD hS => ?_)
  have hP : va_P (dC, dI) vwCl [(h0, .inr (0, [.null, .null, .null, .null, .int 0, .null, .null, .null, .null])), (q_1, .inl (cA_2, 400, .inl (fun _ => 0)))] H := hP
  have hD : va_D A [(h0, .inr (0, [.null, .null, .null, .null, .int 0, .null, .null, .null, .null])), (q_1, .inl (cA_2, 400, .inl (fun _ => 0)))] := hD
  have hK : va_K (dC, dI) vwCl [(cA_2, .int)] s := hK
  refine W.widen (k := 1) (n := 400) (by omega) (by omega) ?_
  refine va_putF (D := (dC, dI)) (ci := 0) (v := .ref q_1) (ty := .array .int) (C := RX0) (T := TX0) (N := 9) hx hb hts (by decide +kernel) tyX0 tyX0_ok nmX0 hown hK hP hD hS 0 rfl rfl 1 (by decide) (hts (.fieldLink RX0 9 "ProofBench$Forms" "codes" "[I") (by decide +kernel)) (fun _ h9 => h9) rfl hin rfl (by decide +kernel) rfl rfl (Nat.le_of_ble_eq_true rfl) dX0_init_10 (fun H locs hP hD hS => ?_)
  have hP : va_P (dC, dI) vwCl [(h0, .inr (0, [.null, .ref q_1, .null, .null, .int 0, .null, .null, .null, .null])), (q_1, .inl (cA_2, 400, .inl (fun _ => 0)))] H := hP
  have hD : va_D A [(h0, .inr (0, [.null, .ref q_1, .null, .null, .int 0, .null, .null, .null, .null])), (q_1, .inl (cA_2, 400, .inl (fun _ => 0)))] := hD
  refine lv_aload_n hx hb dX0_init_13 rfl (lv_at hl 0 rfl) ?_
  refine lv_sipush (v := 400) hx hb dX0_init_14 (by decide) ?_
  refine va_newa (atype := .int) (n := 400) (N' := 400) (ty := .int) (a0 := (400, .inl (fun _ => 0))) hx hb (hts (.arrayClass .int) (by decide +kernel)) rfl hK hP hD hS hA (fun _ => rfl) (by decide) (by decide) (by decide) (show 1 + 1 ≤ 7 by omega) (show 400 + 400 ≤ 1723 by omega) dX0_init_17 (fun q_3 cA_4 H hK hP hD hS => ?_)
  have hP : va_P (dC, dI) vwCl [(h0, .inr (0, [.null, .ref q_1, .null, .null, .int 0, .null, .null, .null, .null])), (q_1, .inl (cA_2, 400, .inl (fun _ => 0))), (q_3, .inl (cA_4, 400, .inl (fun _ => 0)))] H := hP
  have hD : va_D A [(h0, .inr (0, [.null, .ref q_1, .null, .null, .int 0, .null, .null, .null, .null])), (q_1, .inl (cA_2, 400, .inl (fun _ => 0))), (q_3, .inl (cA_4, 400, .inl (fun _ => 0)))] := hD
  have hK : va_K (dC, dI) vwCl [(cA_2, .int), (cA_4, .int)] s := hK
  refine W.widen (k := 2) (n := 800) (by omega) (by omega) ?_
  refine va_putF (D := (dC, dI)) (ci := 0) (v := .ref q_3) (ty := .array .int) (C := RX0) (T := TX0) (N := 9) hx hb hts (by decide +kernel) tyX0 tyX0_ok nmX0 hown hK hP hD hS 0 rfl rfl 2 (by decide) (hts (.fieldLink RX0 15 "ProofBench$Forms" "ends" "[I") (by decide +kernel)) (fun _ h9 => h9) rfl hin rfl (by decide +kernel) rfl rfl (Nat.le_of_ble_eq_true rfl) dX0_init_19 (fun H locs hP hD hS => ?_)
  have hP : va_P (dC, dI) vwCl [(h0, .inr (0, [.null, .ref q_1, .ref q_3, .null, .int 0, .null, .null, .null, .null])), (q_1, .inl (cA_2, 400, .inl (fun _ => 0))), (q_3, .inl (cA_4, 400, .inl (fun _ => 0)))] H := hP
  have hD : va_D A [(h0, .inr (0, [.null, .ref q_1, .ref q_3, .null, .int 0, .null, .null, .null, .null])), (q_1, .inl (cA_2, 400, .inl (fun _ => 0))), (q_3, .inl (cA_4, 400, .inl (fun _ => 0)))] := hD
  refine lv_aload_n hx hb dX0_init_22 rfl (lv_at hl 0 rfl) ?_
  refine lv_sipush (v := 400) hx hb dX0_init_23 (by decide) ?_
  refine va_newa (atype := .int) (n := 400) (N' := 400) (ty := .int) (a0 := (400, .inl (fun _ => 0))) hx hb (hts (.arrayClass .int) (by decide +kernel)) rfl hK hP hD hS hA (fun _ => rfl) (by decide) (by decide) (by decide) (show 2 + 1 ≤ 7 by omega) (show 800 + 400 ≤ 1723 by omega) dX0_init_26 (fun q_5 cA_6 H hK hP hD hS => ?_)
  have hP : va_P (dC, dI) vwCl [(h0, .inr (0, [.null, .ref q_1, .ref q_3, .null, .int 0, .null, .null, .null, .null])), (q_1, .inl (cA_2, 400, .inl (fun _ => 0))), (q_3, .inl (cA_4, 400, .inl (fun _ => 0))), (q_5, .inl (cA_6, 400, .inl (fun _ => 0)))] H := hP
  have hD : va_D A [(h0, .inr (0, [.null, .ref q_1, .ref q_3, .null, .int 0, .null, .null, .null, .null])), (q_1, .inl (cA_2, 400, .inl (fun _ => 0))), (q_3, .inl (cA_4, 400, .inl (fun _ => 0))), (q_5, .inl (cA_6, 400, .inl (fun _ => 0)))] := hD
  have hK : va_K (dC, dI) vwCl [(cA_2, .int), (cA_4, .int), (cA_6, .int)] s := hK
  refine W.widen (k := 3) (n := 1200) (by omega) (by omega) ?_
  refine va_putF (D := (dC, dI)) (ci := 0) (v := .ref q_5) (ty := .array .int) (C := RX0) (T := TX0) (N := 9) hx hb hts (by decide +kernel) tyX0 tyX0_ok nmX0 hown hK hP hD hS 0 rfl rfl 3 (by decide) (hts (.fieldLink RX0 18 "ProofBench$Forms" "frees" "[I") (by decide +kernel)) (fun _ h9 => h9) rfl hin rfl (by decide +kernel) rfl rfl (Nat.le_of_ble_eq_true rfl) dX0_init_28 (fun H locs hP hD hS => ?_)
  have hP : va_P (dC, dI) vwCl [(h0, .inr (0, [.null, .ref q_1, .ref q_3, .ref q_5, .int 0, .null, .null, .null, .null])), (q_1, .inl (cA_2, 400, .inl (fun _ => 0))), (q_3, .inl (cA_4, 400, .inl (fun _ => 0))), (q_5, .inl (cA_6, 400, .inl (fun _ => 0)))] H := hP
  have hD : va_D A [(h0, .inr (0, [.null, .ref q_1, .ref q_3, .ref q_5, .int 0, .null, .null, .null, .null])), (q_1, .inl (cA_2, 400, .inl (fun _ => 0))), (q_3, .inl (cA_4, 400, .inl (fun _ => 0))), (q_5, .inl (cA_6, 400, .inl (fun _ => 0)))] := hD
  refine lv_aload_n hx hb dX0_init_31 rfl (lv_at hl 0 rfl) ?_
  refine lv_sipush (v := 403) hx hb dX0_init_32 (by decide) ?_
  refine va_newa (atype := .int) (n := 403) (N' := 403) (ty := .int) (a0 := (403, .inl (fun _ => 0))) hx hb (hts (.arrayClass .int) (by decide +kernel)) rfl hK hP hD hS hA (fun _ => rfl) (by decide) (by decide) (by decide) (show 3 + 1 ≤ 7 by omega) (show 1200 + 403 ≤ 1723 by omega) dX0_init_35 (fun q_7 cA_8 H hK hP hD hS => ?_)
  have hP : va_P (dC, dI) vwCl [(h0, .inr (0, [.null, .ref q_1, .ref q_3, .ref q_5, .int 0, .null, .null, .null, .null])), (q_1, .inl (cA_2, 400, .inl (fun _ => 0))), (q_3, .inl (cA_4, 400, .inl (fun _ => 0))), (q_5, .inl (cA_6, 400, .inl (fun _ => 0))), (q_7, .inl (cA_8, 403, .inl (fun _ => 0)))] H := hP
  have hD : va_D A [(h0, .inr (0, [.null, .ref q_1, .ref q_3, .ref q_5, .int 0, .null, .null, .null, .null])), (q_1, .inl (cA_2, 400, .inl (fun _ => 0))), (q_3, .inl (cA_4, 400, .inl (fun _ => 0))), (q_5, .inl (cA_6, 400, .inl (fun _ => 0))), (q_7, .inl (cA_8, 403, .inl (fun _ => 0)))] := hD
  have hK : va_K (dC, dI) vwCl [(cA_2, .int), (cA_4, .int), (cA_6, .int), (cA_8, .int)] s := hK
  refine W.widen (k := 4) (n := 1603) (by omega) (by omega) ?_
  refine va_putF (D := (dC, dI)) (ci := 0) (v := .ref q_7) (ty := .array .int) (C := RX0) (T := TX0) (N := 9) hx hb hts (by decide +kernel) tyX0 tyX0_ok nmX0 hown hK hP hD hS 0 rfl rfl 5 (by decide) (hts (.fieldLink RX0 21 "ProofBench$Forms" "heights" "[I") (by decide +kernel)) (fun _ h9 => h9) rfl hin rfl (by decide +kernel) rfl rfl (Nat.le_of_ble_eq_true rfl) dX0_init_37 (fun H locs hP hD hS => ?_)
  have hP : va_P (dC, dI) vwCl [(h0, .inr (0, [.null, .ref q_1, .ref q_3, .ref q_5, .int 0, .ref q_7, .null, .null, .null])), (q_1, .inl (cA_2, 400, .inl (fun _ => 0))), (q_3, .inl (cA_4, 400, .inl (fun _ => 0))), (q_5, .inl (cA_6, 400, .inl (fun _ => 0))), (q_7, .inl (cA_8, 403, .inl (fun _ => 0)))] H := hP
  have hD : va_D A [(h0, .inr (0, [.null, .ref q_1, .ref q_3, .ref q_5, .int 0, .ref q_7, .null, .null, .null])), (q_1, .inl (cA_2, 400, .inl (fun _ => 0))), (q_3, .inl (cA_4, 400, .inl (fun _ => 0))), (q_5, .inl (cA_6, 400, .inl (fun _ => 0))), (q_7, .inl (cA_8, 403, .inl (fun _ => 0)))] := hD
  refine lv_aload_n hx hb dX0_init_40 rfl (lv_at hl 0 rfl) ?_
  refine lv_bipush (v := 40) hx hb dX0_init_41 (by decide) ?_
  refine va_newa (atype := .int) (n := 40) (N' := 40) (ty := .int) (a0 := (40, .inl (fun _ => 0))) hx hb (hts (.arrayClass .int) (by decide +kernel)) rfl hK hP hD hS hA (fun _ => rfl) (by decide) (by decide) (by decide) (show 4 + 1 ≤ 7 by omega) (show 1603 + 40 ≤ 1723 by omega) dX0_init_43 (fun q_9 cA_10 H hK hP hD hS => ?_)
  have hP : va_P (dC, dI) vwCl [(h0, .inr (0, [.null, .ref q_1, .ref q_3, .ref q_5, .int 0, .ref q_7, .null, .null, .null])), (q_1, .inl (cA_2, 400, .inl (fun _ => 0))), (q_3, .inl (cA_4, 400, .inl (fun _ => 0))), (q_5, .inl (cA_6, 400, .inl (fun _ => 0))), (q_7, .inl (cA_8, 403, .inl (fun _ => 0))), (q_9, .inl (cA_10, 40, .inl (fun _ => 0)))] H := hP
  have hD : va_D A [(h0, .inr (0, [.null, .ref q_1, .ref q_3, .ref q_5, .int 0, .ref q_7, .null, .null, .null])), (q_1, .inl (cA_2, 400, .inl (fun _ => 0))), (q_3, .inl (cA_4, 400, .inl (fun _ => 0))), (q_5, .inl (cA_6, 400, .inl (fun _ => 0))), (q_7, .inl (cA_8, 403, .inl (fun _ => 0))), (q_9, .inl (cA_10, 40, .inl (fun _ => 0)))] := hD
  have hK : va_K (dC, dI) vwCl [(cA_2, .int), (cA_4, .int), (cA_6, .int), (cA_8, .int), (cA_10, .int)] s := hK
  refine W.widen (k := 5) (n := 1643) (by omega) (by omega) ?_
  refine va_putF (D := (dC, dI)) (ci := 0) (v := .ref q_9) (ty := .array .int) (C := RX0) (T := TX0) (N := 9) hx hb hts (by decide +kernel) tyX0 tyX0_ok nmX0 hown hK hP hD hS 0 rfl rfl 6 (by decide) (hts (.fieldLink RX0 24 "ProofBench$Forms" "lefts" "[I") (by decide +kernel)) (fun _ h9 => h9) rfl hin rfl (by decide +kernel) rfl rfl (Nat.le_of_ble_eq_true rfl) dX0_init_45 (fun H locs hP hD hS => ?_)
  have hP : va_P (dC, dI) vwCl [(h0, .inr (0, [.null, .ref q_1, .ref q_3, .ref q_5, .int 0, .ref q_7, .ref q_9, .null, .null])), (q_1, .inl (cA_2, 400, .inl (fun _ => 0))), (q_3, .inl (cA_4, 400, .inl (fun _ => 0))), (q_5, .inl (cA_6, 400, .inl (fun _ => 0))), (q_7, .inl (cA_8, 403, .inl (fun _ => 0))), (q_9, .inl (cA_10, 40, .inl (fun _ => 0)))] H := hP
  have hD : va_D A [(h0, .inr (0, [.null, .ref q_1, .ref q_3, .ref q_5, .int 0, .ref q_7, .ref q_9, .null, .null])), (q_1, .inl (cA_2, 400, .inl (fun _ => 0))), (q_3, .inl (cA_4, 400, .inl (fun _ => 0))), (q_5, .inl (cA_6, 400, .inl (fun _ => 0))), (q_7, .inl (cA_8, 403, .inl (fun _ => 0))), (q_9, .inl (cA_10, 40, .inl (fun _ => 0)))] := hD
  refine lv_aload_n hx hb dX0_init_48 rfl (lv_at hl 0 rfl) ?_
  refine lv_bipush (v := 40) hx hb dX0_init_49 (by decide) ?_
  refine va_newa (atype := .int) (n := 40) (N' := 40) (ty := .int) (a0 := (40, .inl (fun _ => 0))) hx hb (hts (.arrayClass .int) (by decide +kernel)) rfl hK hP hD hS hA (fun _ => rfl) (by decide) (by decide) (by decide) (show 5 + 1 ≤ 7 by omega) (show 1643 + 40 ≤ 1723 by omega) dX0_init_51 (fun q_11 cA_12 H hK hP hD hS => ?_)
  have hP : va_P (dC, dI) vwCl [(h0, .inr (0, [.null, .ref q_1, .ref q_3, .ref q_5, .int 0, .ref q_7, .ref q_9, .null, .null])), (q_1, .inl (cA_2, 400, .inl (fun _ => 0))), (q_3, .inl (cA_4, 400, .inl (fun _ => 0))), (q_5, .inl (cA_6, 400, .inl (fun _ => 0))), (q_7, .inl (cA_8, 403, .inl (fun _ => 0))), (q_9, .inl (cA_10, 40, .inl (fun _ => 0))), (q_11, .inl (cA_12, 40, .inl (fun _ => 0)))] H := hP
  have hD : va_D A [(h0, .inr (0, [.null, .ref q_1, .ref q_3, .ref q_5, .int 0, .ref q_7, .ref q_9, .null, .null])), (q_1, .inl (cA_2, 400, .inl (fun _ => 0))), (q_3, .inl (cA_4, 400, .inl (fun _ => 0))), (q_5, .inl (cA_6, 400, .inl (fun _ => 0))), (q_7, .inl (cA_8, 403, .inl (fun _ => 0))), (q_9, .inl (cA_10, 40, .inl (fun _ => 0))), (q_11, .inl (cA_12, 40, .inl (fun _ => 0)))] := hD
  have hK : va_K (dC, dI) vwCl [(cA_2, .int), (cA_4, .int), (cA_6, .int), (cA_8, .int), (cA_10, .int), (cA_12, .int)] s := hK
  refine W.widen (k := 6) (n := 1683) (by omega) (by omega) ?_
  refine va_putF (D := (dC, dI)) (ci := 0) (v := .ref q_11) (ty := .array .int) (C := RX0) (T := TX0) (N := 9) hx hb hts (by decide +kernel) tyX0 tyX0_ok nmX0 hown hK hP hD hS 0 rfl rfl 7 (by decide) (hts (.fieldLink RX0 27 "ProofBench$Forms" "rights" "[I") (by decide +kernel)) (fun _ h9 => h9) rfl hin rfl (by decide +kernel) rfl rfl (Nat.le_of_ble_eq_true rfl) dX0_init_53 (fun H locs hP hD hS => ?_)
  have hP : va_P (dC, dI) vwCl [(h0, .inr (0, [.null, .ref q_1, .ref q_3, .ref q_5, .int 0, .ref q_7, .ref q_9, .ref q_11, .null])), (q_1, .inl (cA_2, 400, .inl (fun _ => 0))), (q_3, .inl (cA_4, 400, .inl (fun _ => 0))), (q_5, .inl (cA_6, 400, .inl (fun _ => 0))), (q_7, .inl (cA_8, 403, .inl (fun _ => 0))), (q_9, .inl (cA_10, 40, .inl (fun _ => 0))), (q_11, .inl (cA_12, 40, .inl (fun _ => 0)))] H := hP
  have hD : va_D A [(h0, .inr (0, [.null, .ref q_1, .ref q_3, .ref q_5, .int 0, .ref q_7, .ref q_9, .ref q_11, .null])), (q_1, .inl (cA_2, 400, .inl (fun _ => 0))), (q_3, .inl (cA_4, 400, .inl (fun _ => 0))), (q_5, .inl (cA_6, 400, .inl (fun _ => 0))), (q_7, .inl (cA_8, 403, .inl (fun _ => 0))), (q_9, .inl (cA_10, 40, .inl (fun _ => 0))), (q_11, .inl (cA_12, 40, .inl (fun _ => 0)))] := hD
  refine lv_aload_n hx hb dX0_init_56 rfl (lv_at hl 0 rfl) ?_
  refine lv_bipush (v := 40) hx hb dX0_init_57 (by decide) ?_
  refine va_newa (atype := .int) (n := 40) (N' := 40) (ty := .int) (a0 := (40, .inl (fun _ => 0))) hx hb (hts (.arrayClass .int) (by decide +kernel)) rfl hK hP hD hS hA (fun _ => rfl) (by decide) (by decide) (by decide) (show 6 + 1 ≤ 7 by omega) (show 1683 + 40 ≤ 1723 by omega) dX0_init_59 (fun q_13 cA_14 H hK hP hD hS => ?_)
  have hP : va_P (dC, dI) vwCl [(h0, .inr (0, [.null, .ref q_1, .ref q_3, .ref q_5, .int 0, .ref q_7, .ref q_9, .ref q_11, .null])), (q_1, .inl (cA_2, 400, .inl (fun _ => 0))), (q_3, .inl (cA_4, 400, .inl (fun _ => 0))), (q_5, .inl (cA_6, 400, .inl (fun _ => 0))), (q_7, .inl (cA_8, 403, .inl (fun _ => 0))), (q_9, .inl (cA_10, 40, .inl (fun _ => 0))), (q_11, .inl (cA_12, 40, .inl (fun _ => 0))), (q_13, .inl (cA_14, 40, .inl (fun _ => 0)))] H := hP
  have hD : va_D A [(h0, .inr (0, [.null, .ref q_1, .ref q_3, .ref q_5, .int 0, .ref q_7, .ref q_9, .ref q_11, .null])), (q_1, .inl (cA_2, 400, .inl (fun _ => 0))), (q_3, .inl (cA_4, 400, .inl (fun _ => 0))), (q_5, .inl (cA_6, 400, .inl (fun _ => 0))), (q_7, .inl (cA_8, 403, .inl (fun _ => 0))), (q_9, .inl (cA_10, 40, .inl (fun _ => 0))), (q_11, .inl (cA_12, 40, .inl (fun _ => 0))), (q_13, .inl (cA_14, 40, .inl (fun _ => 0)))] := hD
  have hK : va_K (dC, dI) vwCl [(cA_2, .int), (cA_4, .int), (cA_6, .int), (cA_8, .int), (cA_10, .int), (cA_12, .int), (cA_14, .int)] s := hK
  refine W.widen (k := 7) (n := 1723) (by omega) (by omega) ?_
  refine va_putF (D := (dC, dI)) (ci := 0) (v := .ref q_13) (ty := .array .int) (C := RX0) (T := TX0) (N := 9) hx hb hts (by decide +kernel) tyX0 tyX0_ok nmX0 hown hK hP hD hS 0 rfl rfl 8 (by decide) (hts (.fieldLink RX0 30 "ProofBench$Forms" "needs" "[I") (by decide +kernel)) (fun _ h9 => h9) rfl hin rfl (by decide +kernel) rfl rfl (Nat.le_of_ble_eq_true rfl) dX0_init_61 (fun H locs hP hD hS => ?_)
  have hP : va_P (dC, dI) vwCl [(h0, .inr (0, [.null, .ref q_1, .ref q_3, .ref q_5, .int 0, .ref q_7, .ref q_9, .ref q_11, .ref q_13])), (q_1, .inl (cA_2, 400, .inl (fun _ => 0))), (q_3, .inl (cA_4, 400, .inl (fun _ => 0))), (q_5, .inl (cA_6, 400, .inl (fun _ => 0))), (q_7, .inl (cA_8, 403, .inl (fun _ => 0))), (q_9, .inl (cA_10, 40, .inl (fun _ => 0))), (q_11, .inl (cA_12, 40, .inl (fun _ => 0))), (q_13, .inl (cA_14, 40, .inl (fun _ => 0)))] H := hP
  have hD : va_D A [(h0, .inr (0, [.null, .ref q_1, .ref q_3, .ref q_5, .int 0, .ref q_7, .ref q_9, .ref q_11, .ref q_13])), (q_1, .inl (cA_2, 400, .inl (fun _ => 0))), (q_3, .inl (cA_4, 400, .inl (fun _ => 0))), (q_5, .inl (cA_6, 400, .inl (fun _ => 0))), (q_7, .inl (cA_8, 403, .inl (fun _ => 0))), (q_9, .inl (cA_10, 40, .inl (fun _ => 0))), (q_11, .inl (cA_12, 40, .inl (fun _ => 0))), (q_13, .inl (cA_14, 40, .inl (fun _ => 0)))] := hD
  refine lv_aload_n hx hb dX0_init_64 rfl (lv_at hl 0 rfl) ?_
  refine lv_aload_n hx hb dX0_init_65 rfl (lv_at hl 1 rfl) ?_
  refine va_putF (D := (dC, dI)) (ci := 0) (v := .ref a_n) (ty := .object "ProofBench$Names") (C := RX0) (T := TX0) (N := 9) hx hb hts (by decide +kernel) tyX0 tyX0_ok nmX0 hown hK hP hD hS 0 rfl rfl 0 (by decide) (hts (.fieldLink RX0 33 "ProofBench$Forms" "names" "LProofBench$Names;") (by decide +kernel)) (fun _ h9 => h9) rfl hin rfl (by decide +kernel) rfl rfl (Nat.le_of_ble_eq_true rfl) dX0_init_66 (fun H locs hP hD hS => ?_)
  have hP : va_P (dC, dI) vwCl [(h0, .inr (0, [.ref a_n, .ref q_1, .ref q_3, .ref q_5, .int 0, .ref q_7, .ref q_9, .ref q_11, .ref q_13])), (q_1, .inl (cA_2, 400, .inl (fun _ => 0))), (q_3, .inl (cA_4, 400, .inl (fun _ => 0))), (q_5, .inl (cA_6, 400, .inl (fun _ => 0))), (q_7, .inl (cA_8, 403, .inl (fun _ => 0))), (q_9, .inl (cA_10, 40, .inl (fun _ => 0))), (q_11, .inl (cA_12, 40, .inl (fun _ => 0))), (q_13, .inl (cA_14, 40, .inl (fun _ => 0)))] H := hP
  have hD : va_D A [(h0, .inr (0, [.ref a_n, .ref q_1, .ref q_3, .ref q_5, .int 0, .ref q_7, .ref q_9, .ref q_11, .ref q_13])), (q_1, .inl (cA_2, 400, .inl (fun _ => 0))), (q_3, .inl (cA_4, 400, .inl (fun _ => 0))), (q_5, .inl (cA_6, 400, .inl (fun _ => 0))), (q_7, .inl (cA_8, 403, .inl (fun _ => 0))), (q_9, .inl (cA_10, 40, .inl (fun _ => 0))), (q_11, .inl (cA_12, 40, .inl (fun _ => 0))), (q_13, .inl (cA_14, 40, .inl (fun _ => 0)))] := hD
  have hP9 := hP.sub (ws' := []) [] rfl
  have hD9 := hD.sub (ws' := []) [] (by decide) rfl
  have hK9 := hK.sub (tys' := []) [] rfl
  refine W.widen (k := 7) (n := 1723) (by omega) (by omega) ?_
  exact W.vret hx hb hr (fun t ht hW => ⟨⟨(), rfl, trivial, by rw [ht]; exact hP9, va_K.moved hW.alike hK9, hD9⟩, hS.F ht⟩) hS.2.2 dX0_init_69
set_option maxHeartbeats 1000000 in
set_option maxRecDepth 100000 in
/-- Look(tape, names, model) -/
theorem c_Look_init (l : Launch) (dC : Nat → ClassId) (dI : Nat → Nat → Nat) (sz : Nat) (h0 a_t a_n a_m : Nat) : Met l yX1_init wsX1_init ({ frames := 2, cells := 6, slots := 811, locals := 33 }) (va_Pc [.ref h0, .ref a_t, .ref a_n, .ref a_m] (fun U => U.heap.size = sz ∧ va_P (dC, dI) vwCl [(h0, .inr (1, [.null, .null, .null, .null, .null, .null, .null, .int 0, .long 0, .null, .int 0, .int 0]))] U.heap ∧ va_K (dC, dI) vwCl [] U ∧ va_D (fun _ => True) [(h0, .inr (1, [.null, .null, .null, .null, .null, .null, .null, .int 0, .long 0, .null, .int 0, .int 0]))])) (va_Qv (fun _ : Unit => True) (fun _ t => va_P (dC, dI) vwCl [] t.heap ∧ va_K (dC, dI) vwCl [] t ∧ va_D (va_A [(h0, .inr (1, [.null, .null, .null, .null, .null, .null, .null, .int 0, .long 0, .null, .int 0, .int 0]))] sz) []) (va_A [(h0, .inr (1, [.null, .null, .null, .null, .null, .null, .null, .int 0, .long 0, .null, .int 0, .int 0]))] sz)) (6) (811) (va_A [(h0, .inr (1, [.null, .null, .null, .null, .null, .null, .null, .int 0, .long 0, .null, .int 0, .int 0]))] sz) := by
  refine Met.ofW (cc := cX1_init) (maxL := 4) (ret := none) (by decide) rfl ?_
  intro p e s m args below meth c s₁ B hml hv
  obtain ⟨rfl, hsz, hP, hK, hD0⟩ := hv
  have hx := B.exec
  have hb := B.bytes
  have hr := B.returns
  have hts := atoms_spec (ws := wsX1_init) B.pre
  have hown : s.vm.findClass RX1 = some m.cls := findClass_of_methodNamed B.named
  have hlocks := B.notSynchronized
  have hin : meth.name = "<init>" := (name_of_methodNamed B.named B.method).1
  subst hsz
  have hD := hD0.self (sz := s.heap.size)
  generalize hAe : va_A [(h0, .inr (1, [.null, .null, .null, .null, .null, .null, .null, .int 0, .long 0, .null, .int 0, .int 0]))] s.heap.size = A at hD ⊢
  have hA : ∀ q : Nat, s.heap.size ≤ q → A q := fun q h => by rw [← hAe]; exact Or.inr h
  have hS : va_S A s.heap s.heap [] := va_S.rf
  have hl := lv_entry ([.ref h0, .ref a_t, .ref a_n, .ref a_m]) (n := 4) (Nat.le_of_ble_eq_true rfl)
  rw [lg_entry_eq]
  generalize (lg_sl ([.ref h0, .ref a_t, .ref a_n, .ref a_m]) ++ List.replicate (4 - (lg_sl ([.ref h0, .ref a_t, .ref a_n, .ref a_m])).length) Slot.unset).toArray = ls at hl ⊢
  have hl : lv_has ls 4 [(0, .ref h0), (1, .ref a_t), (2, .ref a_n), (3, .ref a_m)] := hl
  refine lv_aload_n hx hb dX1_init_0 rfl (lv_at hl 0 rfl) ?_
  refine W.objInit hx hb hown (hts (.methodLink RX1 3 objectInit) (by decide +kernel)) (hts (.instanceMethod objectInit) (by decide +kernel)) (hts (.code objectInit ⟨#[0xb1]⟩ 1 none) (by decide +kernel)) rfl (by rw [hml]; exact hl.1) rfl dX1_init_1 (Nat.le_of_ble_eq_true rfl) (Nat.le_of_ble_eq_true rfl) ?_
  refine W.eq (g2 := F0 m 4 ls []) rfl ?_
  refine lv_aload_n hx hb dX1_init_4 rfl (lv_at hl 0 rfl) ?_
  refine va_new (ci := 6) (fs := [.null, .int 0]) (C := RX6) (T := TX6) (N := 2) hx hb hts (by decide +kernel) tyX6 tyX6_ok hown (hts (.classLink RX1 9 RX6) (by decide +kernel)) (hts (.instantiable RX6 2) (by decide +kernel)) (hts (.initialized RX6) (by decide +kernel)) hK hP hD hS hA rfl (fun j hj => by rcases (show j = 0 ∨ j = 1 by omega) with rfl | rfl <;> rfl) (show 0 + 1 ≤ 6 by omega) (show 0 + 2 ≤ 811 by omega) dX1_init_5 (fun q_1 H hP hD hS => ?_)
  have hP : va_P (dC, dI) vwCl [(h0, .inr (1, [.null, .null, .null, .null, .null, .null, .null, .int 0, .long 0, .null, .int 0, .int 0])), (q_1, .inr (6, [.null, .int 0]))] H := hP
  have hD : va_D A [(h0, .inr (1, [.null, .null, .null, .null, .null, .null, .null, .int 0, .long 0, .null, .int 0, .int 0])), (q_1, .inr (6, [.null, .int 0]))] := hD
  refine W.widen (k := 1) (n := 2) (by omega) (by omega) ?_
  refine lv_dup hx hb dX1_init_8 rfl ?_
  refine lv_sipush (v := 400) hx hb dX1_init_9 (by decide) ?_
  have hPc := hP.sub (ws' := [(q_1, .inr (6, [.null, .int 0]))]) [1] rfl
  have hDc := hD.sub (ws' := [(q_1, .inr (6, [.null, .int 0]))]) [1] (by decide) rfl
  have hKc := hK.sub (tys' := []) [] rfl
  have hFc := va_free (wc := [(q_1, .inr (6, [.null, .int 0]))]) hD hS hA [1] rfl
  refine va_callv (va_runI (As := [.int 400]) (rest := [.ref q_1, .ref h0]) ⟨hx, hb, hml, hown, hts⟩ (c_Row_init l dC dI H.size q_1 400 400 (by decide) (by decide) (by decide)) (cwI 1 hts gX1_init_X6_init rfl rfl rfl (hts (.initialized RX6) (by decide +kernel)) (hts (.methodLink RX1 11 yX6_init) (by decide +kernel)) (hts (.instanceMethod yX6_init) (by decide +kernel)) rfl (by decide +kernel) ⟨Nat.le_of_ble_eq_true rfl, Nat.le_of_ble_eq_true rfl⟩) ⟨fun a U g mk q => by obtain ⟨q0, q1, qP, qK, qD⟩ := q; exact ⟨q0, q1, qP, va_K.moved (u := U) (U := U.calling g mk a) (Vm.Alike.refl U.vm) qK, qD⟩, fun U hU hW => ⟨rfl, by rw [hU], by rw [hU]; exact hPc, va_K.moved hW.alike hKc, hDc.weaken (fun _ _ _ _ => trivial)⟩⟩ rfl rfl hl.1 rfl (lv_room (Nat.le_of_ble_eq_true rfl)) dX1_init_12 ⟨(show 1 + 1 ≤ 6 by omega), (show 2 + 400 ≤ 811 by omega)⟩) hS (fun q _ h => hFc q h) hFc (fun u t H1 locs ht hvm hw hB hz1 hk1 hS => ?_)
  obtain ⟨q_2, cA_3, hP1, hK1, hD1⟩ := hB
  rw [ht] at hP1
  have hK1 := va_K.moved hvm.symm hK1
  obtain ⟨hP, hD⟩ := va_join (wr := [(h0, .inr (1, [.null, .null, .null, .null, .null, .null, .null, .int 0, .long 0, .null, .int 0, .int 0]))]) (w1 := [(q_1, .inr (6, [.ref q_2, .int 0])), (q_2, .inl (cA_3, 400, .inl (fun _ => 0)))]) hP hD [1] [0] rfl rfl (by decide) (by decide) hk1 hFc hP1 hD1
  have hK := (hK.sub (tys' := []) [] rfl).app hK1
  generalize H1 = H at hP hS ⊢
  have hP : va_P (dC, dI) vwCl [(h0, .inr (1, [.null, .null, .null, .null, .null, .null, .null, .int 0, .long 0, .null, .int 0, .int 0])), (q_1, .inr (6, [.ref q_2, .int 0])), (q_2, .inl (cA_3, 400, .inl (fun _ => 0)))] H := hP
  have hD : va_D A [(h0, .inr (1, [.null, .null, .null, .null, .null, .null, .null, .int 0, .long 0, .null, .int 0, .int 0])), (q_1, .inr (6, [.ref q_2, .int 0])), (q_2, .inl (cA_3, 400, .inl (fun _ => 0)))] := hD
  have hK : va_K (dC, dI) vwCl [(cA_3, .int)] s := hK
  refine W.widen (k := 2) (n := 402) (by omega) (by omega) ?_
  refine va_putF (D := (dC, dI)) (ci := 1) (v := .ref q_1) (ty := .object "ProofBench$Row") (C := RX1) (T := TX1) (N := 12) hx hb hts (by decide +kernel) tyX1 tyX1_ok nmX1 hown hK hP hD hS 0 rfl rfl 3 (by decide) (hts (.fieldLink RX1 14 "ProofBench$Look" "first" "LProofBench$Row;") (by decide +kernel)) (fun _ h9 => h9) rfl hin rfl (by decide +kernel) rfl rfl (Nat.le_of_ble_eq_true rfl) dX1_init_15 (fun H locs hP hD hS => ?_)
  have hP : va_P (dC, dI) vwCl [(h0, .inr (1, [.null, .null, .null, .ref q_1, .null, .null, .null, .int 0, .long 0, .null, .int 0, .int 0])), (q_1, .inr (6, [.ref q_2, .int 0])), (q_2, .inl (cA_3, 400, .inl (fun _ => 0)))] H := hP
  have hD : va_D A [(h0, .inr (1, [.null, .null, .null, .ref q_1, .null, .null, .null, .int 0, .long 0, .null, .int 0, .int 0])), (q_1, .inr (6, [.ref q_2, .int 0])), (q_2, .inl (cA_3, 400, .inl (fun _ => 0)))] := hD
  refine lv_aload_n hx hb dX1_init_18 rfl (lv_at hl 0 rfl) ?_
  refine va_new (ci := 6) (fs := [.null, .int 0]) (C := RX6) (T := TX6) (N := 2) hx hb hts (by decide +kernel) tyX6 tyX6_ok hown (hts (.classLink RX1 9 RX6) (by decide +kernel)) (hts (.instantiable RX6 2) (by decide +kernel)) (hts (.initialized RX6) (by decide +kernel)) hK hP hD hS hA rfl (fun j hj => by rcases (show j = 0 ∨ j = 1 by omega) with rfl | rfl <;> rfl) (show 2 + 1 ≤ 6 by omega) (show 402 + 2 ≤ 811 by omega) dX1_init_19 (fun q_4 H hP hD hS => ?_)
  have hP : va_P (dC, dI) vwCl [(h0, .inr (1, [.null, .null, .null, .ref q_1, .null, .null, .null, .int 0, .long 0, .null, .int 0, .int 0])), (q_1, .inr (6, [.ref q_2, .int 0])), (q_2, .inl (cA_3, 400, .inl (fun _ => 0))), (q_4, .inr (6, [.null, .int 0]))] H := hP
  have hD : va_D A [(h0, .inr (1, [.null, .null, .null, .ref q_1, .null, .null, .null, .int 0, .long 0, .null, .int 0, .int 0])), (q_1, .inr (6, [.ref q_2, .int 0])), (q_2, .inl (cA_3, 400, .inl (fun _ => 0))), (q_4, .inr (6, [.null, .int 0]))] := hD
  refine W.widen (k := 3) (n := 404) (by omega) (by omega) ?_
  refine lv_dup hx hb dX1_init_22 rfl ?_
  refine lv_sipush (v := 400) hx hb dX1_init_23 (by decide) ?_
  have hPc := hP.sub (ws' := [(q_4, .inr (6, [.null, .int 0]))]) [3] rfl
  have hDc := hD.sub (ws' := [(q_4, .inr (6, [.null, .int 0]))]) [3] (by decide) rfl
  have hKc := hK.sub (tys' := []) [] rfl
  have hFc := va_free (wc := [(q_4, .inr (6, [.null, .int 0]))]) hD hS hA [3] rfl
  refine va_callv (va_runI (As := [.int 400]) (rest := [.ref q_4, .ref h0]) ⟨hx, hb, hml, hown, hts⟩ (c_Row_init l dC dI H.size q_4 400 400 (by decide) (by decide) (by decide)) (cwI 1 hts gX1_init_X6_init rfl rfl rfl (hts (.initialized RX6) (by decide +kernel)) (hts (.methodLink RX1 11 yX6_init) (by decide +kernel)) (hts (.instanceMethod yX6_init) (by decide +kernel)) rfl (by decide +kernel) ⟨Nat.le_of_ble_eq_true rfl, Nat.le_of_ble_eq_true rfl⟩) ⟨fun a U g mk q => by obtain ⟨q0, q1, qP, qK, qD⟩ := q; exact ⟨q0, q1, qP, va_K.moved (u := U) (U := U.calling g mk a) (Vm.Alike.refl U.vm) qK, qD⟩, fun U hU hW => ⟨rfl, by rw [hU], by rw [hU]; exact hPc, va_K.moved hW.alike hKc, hDc.weaken (fun _ _ _ _ => trivial)⟩⟩ rfl rfl hl.1 rfl (lv_room (Nat.le_of_ble_eq_true rfl)) dX1_init_26 ⟨(show 3 + 1 ≤ 6 by omega), (show 404 + 400 ≤ 811 by omega)⟩) hS (fun q _ h => hFc q h) hFc (fun u t H1 locs ht hvm hw hB hz1 hk1 hS => ?_)
  obtain ⟨q_5, cA_6, hP1, hK1, hD1⟩ := hB
  rw [ht] at hP1
  have hK1 := va_K.moved hvm.symm hK1
  obtain ⟨hP, hD⟩ := va_join (wr := [(h0, .inr (1, [.null, .null, .null, .ref q_1, .null, .null, .null, .int 0, .long 0, .null, .int 0, .int 0])), (q_1, .inr (6, [.ref q_2, .int 0])), (q_2, .inl (cA_3, 400, .inl (fun _ => 0)))]) (w1 := [(q_4, .inr (6, [.ref q_5, .int 0])), (q_5, .inl (cA_6, 400, .inl (fun _ => 0)))]) hP hD [3] [0, 1, 2] rfl rfl (by decide) (by decide) hk1 hFc hP1 hD1
  have hK := (hK.sub (tys' := [(cA_3, .int)]) [0] rfl).app hK1
  generalize H1 = H at hP hS ⊢
  have hP : va_P (dC, dI) vwCl [(h0, .inr (1, [.null, .null, .null, .ref q_1, .null, .null, .null, .int 0, .long 0, .null, .int 0, .int 0])), (q_1, .inr (6, [.ref q_2, .int 0])), (q_2, .inl (cA_3, 400, .inl (fun _ => 0))), (q_4, .inr (6, [.ref q_5, .int 0])), (q_5, .inl (cA_6, 400, .inl (fun _ => 0)))] H := hP
  have hD : va_D A [(h0, .inr (1, [.null, .null, .null, .ref q_1, .null, .null, .null, .int 0, .long 0, .null, .int 0, .int 0])), (q_1, .inr (6, [.ref q_2, .int 0])), (q_2, .inl (cA_3, 400, .inl (fun _ => 0))), (q_4, .inr (6, [.ref q_5, .int 0])), (q_5, .inl (cA_6, 400, .inl (fun _ => 0)))] := hD
  have hK : va_K (dC, dI) vwCl [(cA_3, .int), (cA_6, .int)] s := hK
  refine W.widen (k := 4) (n := 804) (by omega) (by omega) ?_
  refine va_putF (D := (dC, dI)) (ci := 1) (v := .ref q_4) (ty := .object "ProofBench$Row") (C := RX1) (T := TX1) (N := 12) hx hb hts (by decide +kernel) tyX1 tyX1_ok nmX1 hown hK hP hD hS 0 rfl rfl 4 (by decide) (hts (.fieldLink RX1 20 "ProofBench$Look" "second" "LProofBench$Row;") (by decide +kernel)) (fun _ h9 => h9) rfl hin rfl (by decide +kernel) rfl rfl (Nat.le_of_ble_eq_true rfl) dX1_init_29 (fun H locs hP hD hS => ?_)
  have hP : va_P (dC, dI) vwCl [(h0, .inr (1, [.null, .null, .null, .ref q_1, .ref q_4, .null, .null, .int 0, .long 0, .null, .int 0, .int 0])), (q_1, .inr (6, [.ref q_2, .int 0])), (q_2, .inl (cA_3, 400, .inl (fun _ => 0))), (q_4, .inr (6, [.ref q_5, .int 0])), (q_5, .inl (cA_6, 400, .inl (fun _ => 0)))] H := hP
  have hD : va_D A [(h0, .inr (1, [.null, .null, .null, .ref q_1, .ref q_4, .null, .null, .int 0, .long 0, .null, .int 0, .int 0])), (q_1, .inr (6, [.ref q_2, .int 0])), (q_2, .inl (cA_3, 400, .inl (fun _ => 0))), (q_4, .inr (6, [.ref q_5, .int 0])), (q_5, .inl (cA_6, 400, .inl (fun _ => 0)))] := hD
  refine lv_aload_n hx hb dX1_init_32 rfl (lv_at hl 0 rfl) ?_
  refine lv_iconst (v := 4) hx hb dX1_init_33 (by decide) ?_
  refine va_newa (atype := .int) (n := 4) (N' := 4) (ty := .int) (a0 := (4, .inl (fun _ => 0))) hx hb (hts (.arrayClass .int) (by decide +kernel)) rfl hK hP hD hS hA (fun _ => rfl) (by decide) (by decide) (by decide) (show 4 + 1 ≤ 6 by omega) (show 804 + 4 ≤ 811 by omega) dX1_init_34 (fun q_7 cA_8 H hK hP hD hS => ?_)
  have hP : va_P (dC, dI) vwCl [(h0, .inr (1, [.null, .null, .null, .ref q_1, .ref q_4, .null, .null, .int 0, .long 0, .null, .int 0, .int 0])), (q_1, .inr (6, [.ref q_2, .int 0])), (q_2, .inl (cA_3, 400, .inl (fun _ => 0))), (q_4, .inr (6, [.ref q_5, .int 0])), (q_5, .inl (cA_6, 400, .inl (fun _ => 0))), (q_7, .inl (cA_8, 4, .inl (fun _ => 0)))] H := hP
  have hD : va_D A [(h0, .inr (1, [.null, .null, .null, .ref q_1, .ref q_4, .null, .null, .int 0, .long 0, .null, .int 0, .int 0])), (q_1, .inr (6, [.ref q_2, .int 0])), (q_2, .inl (cA_3, 400, .inl (fun _ => 0))), (q_4, .inr (6, [.ref q_5, .int 0])), (q_5, .inl (cA_6, 400, .inl (fun _ => 0))), (q_7, .inl (cA_8, 4, .inl (fun _ => 0)))] := hD
  have hK : va_K (dC, dI) vwCl [(cA_3, .int), (cA_6, .int), (cA_8, .int)] s := hK
  refine W.widen (k := 5) (n := 808) (by omega) (by omega) ?_
  refine va_putF (D := (dC, dI)) (ci := 1) (v := .ref q_7) (ty := .array .int) (C := RX1) (T := TX1) (N := 12) hx hb hts (by decide +kernel) tyX1 tyX1_ok nmX1 hown hK hP hD hS 0 rfl rfl 5 (by decide) (hts (.fieldLink RX1 25 "ProofBench$Look" "values" "[I") (by decide +kernel)) (fun _ h9 => h9) rfl hin rfl (by decide +kernel) rfl rfl (Nat.le_of_ble_eq_true rfl) dX1_init_36 (fun H locs hP hD hS => ?_)
  have hP : va_P (dC, dI) vwCl [(h0, .inr (1, [.null, .null, .null, .ref q_1, .ref q_4, .ref q_7, .null, .int 0, .long 0, .null, .int 0, .int 0])), (q_1, .inr (6, [.ref q_2, .int 0])), (q_2, .inl (cA_3, 400, .inl (fun _ => 0))), (q_4, .inr (6, [.ref q_5, .int 0])), (q_5, .inl (cA_6, 400, .inl (fun _ => 0))), (q_7, .inl (cA_8, 4, .inl (fun _ => 0)))] H := hP
  have hD : va_D A [(h0, .inr (1, [.null, .null, .null, .ref q_1, .ref q_4, .ref q_7, .null, .int 0, .long 0, .null, .int 0, .int 0])), (q_1, .inr (6, [.ref q_2, .int 0])), (q_2, .inl (cA_3, 400, .inl (fun _ => 0))), (q_4, .inr (6, [.ref q_5, .int 0])), (q_5, .inl (cA_6, 400, .inl (fun _ => 0))), (q_7, .inl (cA_8, 4, .inl (fun _ => 0)))] := hD
  refine lv_aload_n hx hb dX1_init_39 rfl (lv_at hl 0 rfl) ?_
  refine lv_iconst (v := 3) hx hb dX1_init_40 (by decide) ?_
  refine va_newa (atype := .int) (n := 3) (N' := 3) (ty := .int) (a0 := (3, .inl (fun _ => 0))) hx hb (hts (.arrayClass .int) (by decide +kernel)) rfl hK hP hD hS hA (fun _ => rfl) (by decide) (by decide) (by decide) (show 5 + 1 ≤ 6 by omega) (show 808 + 3 ≤ 811 by omega) dX1_init_41 (fun q_9 cA_10 H hK hP hD hS => ?_)
  have hP : va_P (dC, dI) vwCl [(h0, .inr (1, [.null, .null, .null, .ref q_1, .ref q_4, .ref q_7, .null, .int 0, .long 0, .null, .int 0, .int 0])), (q_1, .inr (6, [.ref q_2, .int 0])), (q_2, .inl (cA_3, 400, .inl (fun _ => 0))), (q_4, .inr (6, [.ref q_5, .int 0])), (q_5, .inl (cA_6, 400, .inl (fun _ => 0))), (q_7, .inl (cA_8, 4, .inl (fun _ => 0))), (q_9, .inl (cA_10, 3, .inl (fun _ => 0)))] H := hP
  have hD : va_D A [(h0, .inr (1, [.null, .null, .null, .ref q_1, .ref q_4, .ref q_7, .null, .int 0, .long 0, .null, .int 0, .int 0])), (q_1, .inr (6, [.ref q_2, .int 0])), (q_2, .inl (cA_3, 400, .inl (fun _ => 0))), (q_4, .inr (6, [.ref q_5, .int 0])), (q_5, .inl (cA_6, 400, .inl (fun _ => 0))), (q_7, .inl (cA_8, 4, .inl (fun _ => 0))), (q_9, .inl (cA_10, 3, .inl (fun _ => 0)))] := hD
  have hK : va_K (dC, dI) vwCl [(cA_3, .int), (cA_6, .int), (cA_8, .int), (cA_10, .int)] s := hK
  refine W.widen (k := 6) (n := 811) (by omega) (by omega) ?_
  refine va_putF (D := (dC, dI)) (ci := 1) (v := .ref q_9) (ty := .array .int) (C := RX1) (T := TX1) (N := 12) hx hb hts (by decide +kernel) tyX1 tyX1_ok nmX1 hown hK hP hD hS 0 rfl rfl 6 (by decide) (hts (.fieldLink RX1 29 "ProofBench$Look" "row" "[I") (by decide +kernel)) (fun _ h9 => h9) rfl hin rfl (by decide +kernel) rfl rfl (Nat.le_of_ble_eq_true rfl) dX1_init_43 (fun H locs hP hD hS => ?_)
  have hP : va_P (dC, dI) vwCl [(h0, .inr (1, [.null, .null, .null, .ref q_1, .ref q_4, .ref q_7, .ref q_9, .int 0, .long 0, .null, .int 0, .int 0])), (q_1, .inr (6, [.ref q_2, .int 0])), (q_2, .inl (cA_3, 400, .inl (fun _ => 0))), (q_4, .inr (6, [.ref q_5, .int 0])), (q_5, .inl (cA_6, 400, .inl (fun _ => 0))), (q_7, .inl (cA_8, 4, .inl (fun _ => 0))), (q_9, .inl (cA_10, 3, .inl (fun _ => 0)))] H := hP
  have hD : va_D A [(h0, .inr (1, [.null, .null, .null, .ref q_1, .ref q_4, .ref q_7, .ref q_9, .int 0, .long 0, .null, .int 0, .int 0])), (q_1, .inr (6, [.ref q_2, .int 0])), (q_2, .inl (cA_3, 400, .inl (fun _ => 0))), (q_4, .inr (6, [.ref q_5, .int 0])), (q_5, .inl (cA_6, 400, .inl (fun _ => 0))), (q_7, .inl (cA_8, 4, .inl (fun _ => 0))), (q_9, .inl (cA_10, 3, .inl (fun _ => 0)))] := hD
  refine lv_aload_n hx hb dX1_init_46 rfl (lv_at hl 0 rfl) ?_
  refine lv_aload_n hx hb dX1_init_47 rfl (lv_at hl 1 rfl) ?_
  refine va_putF (D := (dC, dI)) (ci := 1) (v := .ref a_t) (ty := .object "ProofBench$Tape") (C := RX1) (T := TX1) (N := 12) hx hb hts (by decide +kernel) tyX1 tyX1_ok nmX1 hown hK hP hD hS 0 rfl rfl 0 (by decide) (hts (.fieldLink RX1 32 "ProofBench$Look" "tape" "LProofBench$Tape;") (by decide +kernel)) (fun _ h9 => h9) rfl hin rfl (by decide +kernel) rfl rfl (Nat.le_of_ble_eq_true rfl) dX1_init_48 (fun H locs hP hD hS => ?_)
  have hP : va_P (dC, dI) vwCl [(h0, .inr (1, [.ref a_t, .null, .null, .ref q_1, .ref q_4, .ref q_7, .ref q_9, .int 0, .long 0, .null, .int 0, .int 0])), (q_1, .inr (6, [.ref q_2, .int 0])), (q_2, .inl (cA_3, 400, .inl (fun _ => 0))), (q_4, .inr (6, [.ref q_5, .int 0])), (q_5, .inl (cA_6, 400, .inl (fun _ => 0))), (q_7, .inl (cA_8, 4, .inl (fun _ => 0))), (q_9, .inl (cA_10, 3, .inl (fun _ => 0)))] H := hP
  have hD : va_D A [(h0, .inr (1, [.ref a_t, .null, .null, .ref q_1, .ref q_4, .ref q_7, .ref q_9, .int 0, .long 0, .null, .int 0, .int 0])), (q_1, .inr (6, [.ref q_2, .int 0])), (q_2, .inl (cA_3, 400, .inl (fun _ => 0))), (q_4, .inr (6, [.ref q_5, .int 0])), (q_5, .inl (cA_6, 400, .inl (fun _ => 0))), (q_7, .inl (cA_8, 4, .inl (fun _ => 0))), (q_9, .inl (cA_10, 3, .inl (fun _ => 0)))] := hD
  refine lv_aload_n hx hb dX1_init_51 rfl (lv_at hl 0 rfl) ?_
  refine lv_aload_n hx hb dX1_init_52 rfl (lv_at hl 2 rfl) ?_
  refine va_putF (D := (dC, dI)) (ci := 1) (v := .ref a_n) (ty := .object "ProofBench$Names") (C := RX1) (T := TX1) (N := 12) hx hb hts (by decide +kernel) tyX1 tyX1_ok nmX1 hown hK hP hD hS 0 rfl rfl 1 (by decide) (hts (.fieldLink RX1 36 "ProofBench$Look" "names" "LProofBench$Names;") (by decide +kernel)) (fun _ h9 => h9) rfl hin rfl (by decide +kernel) rfl rfl (Nat.le_of_ble_eq_true rfl) dX1_init_53 (fun H locs hP hD hS => ?_)
  have hP : va_P (dC, dI) vwCl [(h0, .inr (1, [.ref a_t, .ref a_n, .null, .ref q_1, .ref q_4, .ref q_7, .ref q_9, .int 0, .long 0, .null, .int 0, .int 0])), (q_1, .inr (6, [.ref q_2, .int 0])), (q_2, .inl (cA_3, 400, .inl (fun _ => 0))), (q_4, .inr (6, [.ref q_5, .int 0])), (q_5, .inl (cA_6, 400, .inl (fun _ => 0))), (q_7, .inl (cA_8, 4, .inl (fun _ => 0))), (q_9, .inl (cA_10, 3, .inl (fun _ => 0)))] H := hP
  have hD : va_D A [(h0, .inr (1, [.ref a_t, .ref a_n, .null, .ref q_1, .ref q_4, .ref q_7, .ref q_9, .int 0, .long 0, .null, .int 0, .int 0])), (q_1, .inr (6, [.ref q_2, .int 0])), (q_2, .inl (cA_3, 400, .inl (fun _ => 0))), (q_4, .inr (6, [.ref q_5, .int 0])), (q_5, .inl (cA_6, 400, .inl (fun _ => 0))), (q_7, .inl (cA_8, 4, .inl (fun _ => 0))), (q_9, .inl (cA_10, 3, .inl (fun _ => 0)))] := hD
  refine lv_aload_n hx hb dX1_init_56 rfl (lv_at hl 0 rfl) ?_
  refine lv_aload_n hx hb dX1_init_57 rfl (lv_at hl 3 rfl) ?_
  refine va_putF (D := (dC, dI)) (ci := 1) (v := .ref a_m) (ty := .object "ProofBench$Model") (C := RX1) (T := TX1) (N := 12) hx hb hts (by decide +kernel) tyX1 tyX1_ok nmX1 hown hK hP hD hS 0 rfl rfl 2 (by decide) (hts (.fieldLink RX1 40 "ProofBench$Look" "model" "LProofBench$Model;") (by decide +kernel)) (fun _ h9 => h9) rfl hin rfl (by decide +kernel) rfl rfl (Nat.le_of_ble_eq_true rfl) dX1_init_58 (fun H locs hP hD hS => ?_)
  have hP : va_P (dC, dI) vwCl [(h0, .inr (1, [.ref a_t, .ref a_n, .ref a_m, .ref q_1, .ref q_4, .ref q_7, .ref q_9, .int 0, .long 0, .null, .int 0, .int 0])), (q_1, .inr (6, [.ref q_2, .int 0])), (q_2, .inl (cA_3, 400, .inl (fun _ => 0))), (q_4, .inr (6, [.ref q_5, .int 0])), (q_5, .inl (cA_6, 400, .inl (fun _ => 0))), (q_7, .inl (cA_8, 4, .inl (fun _ => 0))), (q_9, .inl (cA_10, 3, .inl (fun _ => 0)))] H := hP
  have hD : va_D A [(h0, .inr (1, [.ref a_t, .ref a_n, .ref a_m, .ref q_1, .ref q_4, .ref q_7, .ref q_9, .int 0, .long 0, .null, .int 0, .int 0])), (q_1, .inr (6, [.ref q_2, .int 0])), (q_2, .inl (cA_3, 400, .inl (fun _ => 0))), (q_4, .inr (6, [.ref q_5, .int 0])), (q_5, .inl (cA_6, 400, .inl (fun _ => 0))), (q_7, .inl (cA_8, 4, .inl (fun _ => 0))), (q_9, .inl (cA_10, 3, .inl (fun _ => 0)))] := hD
  refine lv_aload_n hx hb dX1_init_61 rfl (lv_at hl 0 rfl) ?_
  refine lv_aload_n hx hb dX1_init_62 rfl (lv_at hl 0 rfl) ?_
  refine va_get (D := (dC, dI)) (ci := 1) (v := .ref q_1) (C := RX1) (T := TX1) (N := 12) hx hb hts (by decide +kernel) hown hK hP 0 rfl rfl 3 (by decide) (hts (.fieldLink RX1 14 "ProofBench$Look" "first" "LProofBench$Row;") (by decide +kernel)) (fun _ h9 => h9) rfl dX1_init_63 ?_
  refine va_put (D := (dC, dI)) (ci := 1) (v := .ref q_1) (ty := .object "ProofBench$Row") (C := RX1) (T := TX1) (N := 12) hx hb hts (by decide +kernel) tyX1 tyX1_ok nmX1 hown hK hP hD hS 0 rfl rfl 9 (by decide) (hts (.fieldLink RX1 44 "ProofBench$Look" "into" "LProofBench$Row;") (by decide +kernel)) (fun _ h9 => h9) rfl (by decide +kernel) rfl rfl (Nat.le_of_ble_eq_true rfl) dX1_init_66 (fun H locs hP hD hS => ?_)
  have hP : va_P (dC, dI) vwCl [(h0, .inr (1, [.ref a_t, .ref a_n, .ref a_m, .ref q_1, .ref q_4, .ref q_7, .ref q_9, .int 0, .long 0, .ref q_1, .int 0, .int 0])), (q_1, .inr (6, [.ref q_2, .int 0])), (q_2, .inl (cA_3, 400, .inl (fun _ => 0))), (q_4, .inr (6, [.ref q_5, .int 0])), (q_5, .inl (cA_6, 400, .inl (fun _ => 0))), (q_7, .inl (cA_8, 4, .inl (fun _ => 0))), (q_9, .inl (cA_10, 3, .inl (fun _ => 0)))] H := hP
  have hD : va_D A [(h0, .inr (1, [.ref a_t, .ref a_n, .ref a_m, .ref q_1, .ref q_4, .ref q_7, .ref q_9, .int 0, .long 0, .ref q_1, .int 0, .int 0])), (q_1, .inr (6, [.ref q_2, .int 0])), (q_2, .inl (cA_3, 400, .inl (fun _ => 0))), (q_4, .inr (6, [.ref q_5, .int 0])), (q_5, .inl (cA_6, 400, .inl (fun _ => 0))), (q_7, .inl (cA_8, 4, .inl (fun _ => 0))), (q_9, .inl (cA_10, 3, .inl (fun _ => 0)))] := hD
  have hP9 := hP.sub (ws' := []) [] rfl
  have hD9 := hD.sub (ws' := []) [] (by decide) rfl
  have hK9 := hK.sub (tys' := []) [] rfl
  refine W.widen (k := 6) (n := 811) (by omega) (by omega) ?_
  exact W.vret hx hb hr (fun t ht hW => ⟨⟨(), rfl, trivial, by rw [ht]; exact hP9, va_K.moved hW.alike hK9, hD9⟩, hS.F ht⟩) hS.2.2 dX1_init_69
set_option maxHeartbeats 1000000 in
set_option maxRecDepth 100000 in
/-- Search(forms) -/
theorem c_Search_init (l : Launch) (dC : Nat → ClassId) (dI : Nat → Nat → Nat) (sz : Nat) (h0 a_f : Nat) : Met l yX7_init wsX7_init ({ frames := 2, cells := 9, slots := 1612, locals := 33 }) (va_Pc [.ref h0, .ref a_f] (fun U => U.heap.size = sz ∧ va_P (dC, dI) vwCl [(h0, .inr (7, [.null, .null, .int 0, .int 0, .int 0, .int 0]))] U.heap ∧ va_K (dC, dI) vwCl [] U ∧ va_D (fun _ => True) [(h0, .inr (7, [.null, .null, .int 0, .int 0, .int 0, .int 0]))] ∧ va_AO RX6 U)) (va_Qv (fun _ : Unit => True) (fun _ t => va_P (dC, dI) vwCl [] t.heap ∧ va_K (dC, dI) vwCl [] t ∧ va_D (va_A [(h0, .inr (7, [.null, .null, .int 0, .int 0, .int 0, .int 0]))] sz) []) (va_A [(h0, .inr (7, [.null, .null, .int 0, .int 0, .int 0, .int 0]))] sz)) (9) (1612) (va_A [(h0, .inr (7, [.null, .null, .int 0, .int 0, .int 0, .int 0]))] sz) := by
  refine Met.ofW (cc := cX7_init) (maxL := 3) (ret := none) (by decide) rfl ?_
  intro p e s m args below meth c s₁ B hml hv
  obtain ⟨rfl, hsz, hP, hK, hD0, hao⟩ := hv
  have hx := B.exec
  have hb := B.bytes
  have hr := B.returns
  have hts := atoms_spec (ws := wsX7_init) B.pre
  have hown : s.vm.findClass RX7 = some m.cls := findClass_of_methodNamed B.named
  have hlocks := B.notSynchronized
  have hin : meth.name = "<init>" := (name_of_methodNamed B.named B.method).1
  subst hsz
  have hD := hD0.self (sz := s.heap.size)
  generalize hAe : va_A [(h0, .inr (7, [.null, .null, .int 0, .int 0, .int 0, .int 0]))] s.heap.size = A at hD ⊢
  have hA : ∀ q : Nat, s.heap.size ≤ q → A q := fun q h => by rw [← hAe]; exact Or.inr h
  have hS : va_S A s.heap s.heap [] := va_S.rf
  have hl := lv_entry ([.ref h0, .ref a_f]) (n := 3) (Nat.le_of_ble_eq_true rfl)
  rw [lg_entry_eq]
  generalize (lg_sl ([.ref h0, .ref a_f]) ++ List.replicate (3 - (lg_sl ([.ref h0, .ref a_f])).length) Slot.unset).toArray = ls at hl ⊢
  have hl : lv_has ls 3 [(0, .ref h0), (1, .ref a_f)] := hl
  refine lv_aload_n hx hb dX7_init_0 rfl (lv_at hl 0 rfl) ?_
  refine W.objInit hx hb hown (hts (.methodLink RX7 3 objectInit) (by decide +kernel)) (hts (.instanceMethod objectInit) (by decide +kernel)) (hts (.code objectInit ⟨#[0xb1]⟩ 1 none) (by decide +kernel)) rfl (by rw [hml]; exact hl.1) rfl dX7_init_1 (Nat.le_of_ble_eq_true rfl) (Nat.le_of_ble_eq_true rfl) ?_
  refine W.eq (g2 := F0 m 4 ls []) rfl ?_
  refine lv_aload_n hx hb dX7_init_4 rfl (lv_at hl 0 rfl) ?_
  refine lv_iconst (v := 4) hx hb dX7_init_5 (by decide) ?_
  refine va_newq (C := RX6) (n := 4) (N' := 4) hx hb hown (hts (.classLink RX7 11 RX6) (by decide +kernel)) hao hK hP hD hS hA (by decide) (by decide) (by decide) (show 0 + 1 ≤ 9 by omega) (show 0 + 4 ≤ 1612 by omega) dX7_init_6 (fun q_1 cA_2 H hK hP hD hS => ?_)
  have hP : va_P (dC, dI) vwCl [(h0, .inr (7, [.null, .null, .int 0, .int 0, .int 0, .int 0])), (q_1, .inl (cA_2, 4, .inr (.inr (.inr (.inr (fun _ => none))))))] H := hP
  have hD : va_D A [(h0, .inr (7, [.null, .null, .int 0, .int 0, .int 0, .int 0])), (q_1, .inl (cA_2, 4, .inr (.inr (.inr (.inr (fun _ => none))))))] := hD
  have hK : va_K (dC, dI) vwCl [(cA_2, .object RX6)] s := hK
  refine W.widen (k := 1) (n := 4) (by omega) (by omega) ?_
  refine va_putF (D := (dC, dI)) (ci := 7) (v := .ref q_1) (ty := .array (.object "ProofBench$Row")) (C := RX7) (T := TX7) (N := 6) hx hb hts (by decide +kernel) tyX7 tyX7_ok nmX7 hown hK hP hD hS 0 rfl rfl 1 (by decide) (hts (.fieldLink RX7 13 "ProofBench$Search" "letters" "[LProofBench$Row;") (by decide +kernel)) (fun _ h9 => h9) rfl hin rfl (by decide +kernel) rfl rfl (Nat.le_of_ble_eq_true rfl) dX7_init_9 (fun H locs hP hD hS => ?_)
  have hP : va_P (dC, dI) vwCl [(h0, .inr (7, [.null, .ref q_1, .int 0, .int 0, .int 0, .int 0])), (q_1, .inl (cA_2, 4, .inr (.inr (.inr (.inr (fun _ => none))))))] H := hP
  have hD : va_D A [(h0, .inr (7, [.null, .ref q_1, .int 0, .int 0, .int 0, .int 0])), (q_1, .inl (cA_2, 4, .inr (.inr (.inr (.inr (fun _ => none))))))] := hD
  refine lv_aload_n hx hb dX7_init_12 rfl (lv_at hl 0 rfl) ?_
  refine lv_aload_n hx hb dX7_init_13 rfl (lv_at hl 1 rfl) ?_
  refine va_putF (D := (dC, dI)) (ci := 7) (v := .ref a_f) (ty := .object "ProofBench$Forms") (C := RX7) (T := TX7) (N := 6) hx hb hts (by decide +kernel) tyX7 tyX7_ok nmX7 hown hK hP hD hS 0 rfl rfl 0 (by decide) (hts (.fieldLink RX7 17 "ProofBench$Search" "forms" "LProofBench$Forms;") (by decide +kernel)) (fun _ h9 => h9) rfl hin rfl (by decide +kernel) rfl rfl (Nat.le_of_ble_eq_true rfl) dX7_init_14 (fun H locs hP hD hS => ?_)
  have hP : va_P (dC, dI) vwCl [(h0, .inr (7, [.ref a_f, .ref q_1, .int 0, .int 0, .int 0, .int 0])), (q_1, .inl (cA_2, 4, .inr (.inr (.inr (.inr (fun _ => none))))))] H := hP
  have hD : va_D A [(h0, .inr (7, [.ref a_f, .ref q_1, .int 0, .int 0, .int 0, .int 0])), (q_1, .inl (cA_2, 4, .inr (.inr (.inr (.inr (fun _ => none))))))] := hD
  refine lv_iconst (v := 0) hx hb dX7_init_17 (by decide) ?_
  refine lv_istore_n (lv' := [(2, .int 0), (0, .ref h0), (1, .ref a_f)]) hx hb dX7_init_18 rfl hl (by decide) rfl (fun ls hl => ?_)
  refine lv_iload_n hx hb dX7_init_19 rfl (lv_at hl 0 rfl) ?_
  refine lv_iconst (v := 4) hx hb dX7_init_20 (by decide) ?_
  refine lv_icmp_ge (tgt := 46) hx hb dX7_init_21 (by decide) (fun c9 => absurd c9 (by decide)) (fun _ => ?_)
  refine lv_aload_n hx hb dX7_init_24 rfl (lv_at hl 1 rfl) ?_
  refine va_get (D := (dC, dI)) (ci := 7) (v := .ref q_1) (C := RX7) (T := TX7) (N := 6) hx hb hts (by decide +kernel) hown hK hP 0 rfl rfl 1 (by decide) (hts (.fieldLink RX7 13 "ProofBench$Search" "letters" "[LProofBench$Row;") (by decide +kernel)) (fun _ h9 => h9) rfl dX7_init_25 ?_
  refine lv_iload_n hx hb dX7_init_28 rfl (lv_at hl 0 rfl) ?_
  refine va_new (ci := 6) (fs := [.null, .int 0]) (C := RX6) (T := TX6) (N := 2) hx hb hts (by decide +kernel) tyX6 tyX6_ok hown (hts (.classLink RX7 11 RX6) (by decide +kernel)) (hts (.instantiable RX6 2) (by decide +kernel)) (hts (.initialized RX6) (by decide +kernel)) hK hP hD hS hA rfl (fun j hj => by rcases (show j = 0 ∨ j = 1 by omega) with rfl | rfl <;> rfl) (show 1 + 1 ≤ 9 by omega) (show 4 + 2 ≤ 1612 by omega) dX7_init_29 (fun q_3 H hP hD hS => ?_)
  have hP : va_P (dC, dI) vwCl [(h0, .inr (7, [.ref a_f, .ref q_1, .int 0, .int 0, .int 0, .int 0])), (q_1, .inl (cA_2, 4, .inr (.inr (.inr (.inr (fun _ => none)))))), (q_3, .inr (6, [.null, .int 0]))] H := hP
  have hD : va_D A [(h0, .inr (7, [.ref a_f, .ref q_1, .int 0, .int 0, .int 0, .int 0])), (q_1, .inl (cA_2, 4, .inr (.inr (.inr (.inr (fun _ => none)))))), (q_3, .inr (6, [.null, .int 0]))] := hD
  refine W.widen (k := 2) (n := 6) (by omega) (by omega) ?_
  refine lv_dup hx hb dX7_init_32 rfl ?_
  refine lv_sipush (v := 400) hx hb dX7_init_33 (by decide) ?_
  have hPc := hP.sub (ws' := [(q_3, .inr (6, [.null, .int 0]))]) [2] rfl
  have hDc := hD.sub (ws' := [(q_3, .inr (6, [.null, .int 0]))]) [2] (by decide) rfl
  have hKc := hK.sub (tys' := []) [] rfl
  have hFc := va_free (wc := [(q_3, .inr (6, [.null, .int 0]))]) hD hS hA [2] rfl
  refine va_callv (va_runI (As := [.int 400]) (rest := [.ref q_3, .int 0, .ref q_1]) ⟨hx, hb, hml, hown, hts⟩ (c_Row_init l dC dI H.size q_3 400 400 (by decide) (by decide) (by decide)) (cwI 1 hts gX7_init_X6_init rfl rfl rfl (hts (.initialized RX6) (by decide +kernel)) (hts (.methodLink RX7 21 yX6_init) (by decide +kernel)) (hts (.instanceMethod yX6_init) (by decide +kernel)) rfl (by decide +kernel) ⟨Nat.le_of_ble_eq_true rfl, Nat.le_of_ble_eq_true rfl⟩) ⟨fun a U g mk q => by obtain ⟨q0, q1, qP, qK, qD⟩ := q; exact ⟨q0, q1, qP, va_K.moved (u := U) (U := U.calling g mk a) (Vm.Alike.refl U.vm) qK, qD⟩, fun U hU hW => ⟨rfl, by rw [hU], by rw [hU]; exact hPc, va_K.moved hW.alike hKc, hDc.weaken (fun _ _ _ _ => trivial)⟩⟩ rfl rfl hl.1 rfl (lv_room (Nat.le_of_ble_eq_true rfl)) dX7_init_36 ⟨(show 2 + 1 ≤ 9 by omega), (show 6 + 400 ≤ 1612 by omega)⟩) hS (fun q _ h => hFc q h) hFc (fun u t H1 locs ht hvm hw hB hz1 hk1 hS => ?_)
  obtain ⟨q_4, cA_5, hP1, hK1, hD1⟩ := hB
  rw [ht] at hP1
  have hK1 := va_K.moved hvm.symm hK1
  obtain ⟨hP, hD⟩ := va_join (wr := [(h0, .inr (7, [.ref a_f, .ref q_1, .int 0, .int 0, .int 0, .int 0])), (q_1, .inl (cA_2, 4, .inr (.inr (.inr (.inr (fun _ => none))))))]) (w1 := [(q_3, .inr (6, [.ref q_4, .int 0])), (q_4, .inl (cA_5, 400, .inl (fun _ => 0)))]) hP hD [2] [0, 1] rfl rfl (by decide) (by decide) hk1 hFc hP1 hD1
  have hK := (hK.sub (tys' := [(cA_2, .object RX6)]) [0] rfl).app hK1
  generalize H1 = H at hP hS ⊢
  have hP : va_P (dC, dI) vwCl [(h0, .inr (7, [.ref a_f, .ref q_1, .int 0, .int 0, .int 0, .int 0])), (q_1, .inl (cA_2, 4, .inr (.inr (.inr (.inr (fun _ => none)))))), (q_3, .inr (6, [.ref q_4, .int 0])), (q_4, .inl (cA_5, 400, .inl (fun _ => 0)))] H := hP
  have hD : va_D A [(h0, .inr (7, [.ref a_f, .ref q_1, .int 0, .int 0, .int 0, .int 0])), (q_1, .inl (cA_2, 4, .inr (.inr (.inr (.inr (fun _ => none)))))), (q_3, .inr (6, [.ref q_4, .int 0])), (q_4, .inl (cA_5, 400, .inl (fun _ => 0)))] := hD
  have hK : va_K (dC, dI) vwCl [(cA_2, .object RX6), (cA_5, .int)] s := hK
  refine W.widen (k := 3) (n := 406) (by omega) (by omega) ?_
  refine va_astq (r := (RX6, TX6, 2)) hx hb hK hP hD hS 1 0 2 6 rfl rfl rfl rfl (show vp_in (0) 4 from by unfold vp_in; decide) dX7_init_39 (fun H locs hP hD hS => ?_)
  obtain ⟨f_6, hP, hD⟩ : ∃ f9 : Nat → Option Nat, va_P (dC, dI) vwCl [(h0, .inr (7, [.ref a_f, .ref q_1, .int 0, .int 0, .int 0, .int 0])), (q_1, .inl (cA_2, 4, .inr (.inr (.inr (.inr (f9)))))), (q_3, .inr (6, [.ref q_4, .int 0])), (q_4, .inl (cA_5, 400, .inl (fun _ => 0)))] H ∧ va_D A [(h0, .inr (7, [.ref a_f, .ref q_1, .int 0, .int 0, .int 0, .int 0])), (q_1, .inl (cA_2, 4, .inr (.inr (.inr (.inr (f9)))))), (q_3, .inr (6, [.ref q_4, .int 0])), (q_4, .inl (cA_5, 400, .inl (fun _ => 0)))] := ⟨_, hP, hD⟩
  refine lv_iinc (v := 1) (lv' := [(2, .int 1), (0, .ref h0), (1, .ref a_f)]) hx hb dX7_init_40 hl (k := 0) rfl (by decide) (by decide) rfl (fun ls hl => ?_)
  refine lv_goto (tgt := 19) hx hb dX7_init_43 (by decide) ?_
  refine lv_iload_n hx hb dX7_init_19 rfl (lv_at hl 0 rfl) ?_
  refine lv_iconst (v := 4) hx hb dX7_init_20 (by decide) ?_
  refine lv_icmp_ge (tgt := 46) hx hb dX7_init_21 (by decide) (fun c9 => absurd c9 (by decide)) (fun _ => ?_)
  refine lv_aload_n hx hb dX7_init_24 rfl (lv_at hl 1 rfl) ?_
  refine va_get (D := (dC, dI)) (ci := 7) (v := .ref q_1) (C := RX7) (T := TX7) (N := 6) hx hb hts (by decide +kernel) hown hK hP 0 rfl rfl 1 (by decide) (hts (.fieldLink RX7 13 "ProofBench$Search" "letters" "[LProofBench$Row;") (by decide +kernel)) (fun _ h9 => h9) rfl dX7_init_25 ?_
  refine lv_iload_n hx hb dX7_init_28 rfl (lv_at hl 0 rfl) ?_
  refine va_new (ci := 6) (fs := [.null, .int 0]) (C := RX6) (T := TX6) (N := 2) hx hb hts (by decide +kernel) tyX6 tyX6_ok hown (hts (.classLink RX7 11 RX6) (by decide +kernel)) (hts (.instantiable RX6 2) (by decide +kernel)) (hts (.initialized RX6) (by decide +kernel)) hK hP hD hS hA rfl (fun j hj => by rcases (show j = 0 ∨ j = 1 by omega) with rfl | rfl <;> rfl) (show 3 + 1 ≤ 9 by omega) (show 406 + 2 ≤ 1612 by omega) dX7_init_29 (fun q_7 H hP hD hS => ?_)
  have hP : va_P (dC, dI) vwCl [(h0, .inr (7, [.ref a_f, .ref q_1, .int 0, .int 0, .int 0, .int 0])), (q_1, .inl (cA_2, 4, .inr (.inr (.inr (.inr (f_6)))))), (q_3, .inr (6, [.ref q_4, .int 0])), (q_4, .inl (cA_5, 400, .inl (fun _ => 0))), (q_7, .inr (6, [.null, .int 0]))] H := hP
  have hD : va_D A [(h0, .inr (7, [.ref a_f, .ref q_1, .int 0, .int 0, .int 0, .int 0])), (q_1, .inl (cA_2, 4, .inr (.inr (.inr (.inr (f_6)))))), (q_3, .inr (6, [.ref q_4, .int 0])), (q_4, .inl (cA_5, 400, .inl (fun _ => 0))), (q_7, .inr (6, [.null, .int 0]))] := hD
  refine W.widen (k := 4) (n := 408) (by omega) (by omega) ?_
  refine lv_dup hx hb dX7_init_32 rfl ?_
  refine lv_sipush (v := 400) hx hb dX7_init_33 (by decide) ?_
  have hPc := hP.sub (ws' := [(q_7, .inr (6, [.null, .int 0]))]) [4] rfl
  have hDc := hD.sub (ws' := [(q_7, .inr (6, [.null, .int 0]))]) [4] (by decide) rfl
  have hKc := hK.sub (tys' := []) [] rfl
  have hFc := va_free (wc := [(q_7, .inr (6, [.null, .int 0]))]) hD hS hA [4] rfl
  refine va_callv (va_runI (As := [.int 400]) (rest := [.ref q_7, .int 1, .ref q_1]) ⟨hx, hb, hml, hown, hts⟩ (c_Row_init l dC dI H.size q_7 400 400 (by decide) (by decide) (by decide)) (cwI 1 hts gX7_init_X6_init rfl rfl rfl (hts (.initialized RX6) (by decide +kernel)) (hts (.methodLink RX7 21 yX6_init) (by decide +kernel)) (hts (.instanceMethod yX6_init) (by decide +kernel)) rfl (by decide +kernel) ⟨Nat.le_of_ble_eq_true rfl, Nat.le_of_ble_eq_true rfl⟩) ⟨fun a U g mk q => by obtain ⟨q0, q1, qP, qK, qD⟩ := q; exact ⟨q0, q1, qP, va_K.moved (u := U) (U := U.calling g mk a) (Vm.Alike.refl U.vm) qK, qD⟩, fun U hU hW => ⟨rfl, by rw [hU], by rw [hU]; exact hPc, va_K.moved hW.alike hKc, hDc.weaken (fun _ _ _ _ => trivial)⟩⟩ rfl rfl hl.1 rfl (lv_room (Nat.le_of_ble_eq_true rfl)) dX7_init_36 ⟨(show 4 + 1 ≤ 9 by omega), (show 408 + 400 ≤ 1612 by omega)⟩) hS (fun q _ h => hFc q h) hFc (fun u t H1 locs ht hvm hw hB hz1 hk1 hS => ?_)
  obtain ⟨q_8, cA_9, hP1, hK1, hD1⟩ := hB
  rw [ht] at hP1
  have hK1 := va_K.moved hvm.symm hK1
  obtain ⟨hP, hD⟩ := va_join (wr := [(h0, .inr (7, [.ref a_f, .ref q_1, .int 0, .int 0, .int 0, .int 0])), (q_1, .inl (cA_2, 4, .inr (.inr (.inr (.inr (f_6)))))), (q_3, .inr (6, [.ref q_4, .int 0])), (q_4, .inl (cA_5, 400, .inl (fun _ => 0)))]) (w1 := [(q_7, .inr (6, [.ref q_8, .int 0])), (q_8, .inl (cA_9, 400, .inl (fun _ => 0)))]) hP hD [4] [0, 1, 2, 3] rfl rfl (by decide) (by decide) hk1 hFc hP1 hD1
  have hK := (hK.sub (tys' := [(cA_2, .object RX6), (cA_5, .int)]) [0, 1] rfl).app hK1
  generalize H1 = H at hP hS ⊢
  have hP : va_P (dC, dI) vwCl [(h0, .inr (7, [.ref a_f, .ref q_1, .int 0, .int 0, .int 0, .int 0])), (q_1, .inl (cA_2, 4, .inr (.inr (.inr (.inr (f_6)))))), (q_3, .inr (6, [.ref q_4, .int 0])), (q_4, .inl (cA_5, 400, .inl (fun _ => 0))), (q_7, .inr (6, [.ref q_8, .int 0])), (q_8, .inl (cA_9, 400, .inl (fun _ => 0)))] H := hP
  have hD : va_D A [(h0, .inr (7, [.ref a_f, .ref q_1, .int 0, .int 0, .int 0, .int 0])), (q_1, .inl (cA_2, 4, .inr (.inr (.inr (.inr (f_6)))))), (q_3, .inr (6, [.ref q_4, .int 0])), (q_4, .inl (cA_5, 400, .inl (fun _ => 0))), (q_7, .inr (6, [.ref q_8, .int 0])), (q_8, .inl (cA_9, 400, .inl (fun _ => 0)))] := hD
  have hK : va_K (dC, dI) vwCl [(cA_2, .object RX6), (cA_5, .int), (cA_9, .int)] s := hK
  refine W.widen (k := 5) (n := 808) (by omega) (by omega) ?_
  refine va_astq (r := (RX6, TX6, 2)) hx hb hK hP hD hS 1 0 4 6 rfl rfl rfl rfl (show vp_in (1) 4 from by unfold vp_in; decide) dX7_init_39 (fun H locs hP hD hS => ?_)
  obtain ⟨f_10, hP, hD⟩ : ∃ f9 : Nat → Option Nat, va_P (dC, dI) vwCl [(h0, .inr (7, [.ref a_f, .ref q_1, .int 0, .int 0, .int 0, .int 0])), (q_1, .inl (cA_2, 4, .inr (.inr (.inr (.inr (f9)))))), (q_3, .inr (6, [.ref q_4, .int 0])), (q_4, .inl (cA_5, 400, .inl (fun _ => 0))), (q_7, .inr (6, [.ref q_8, .int 0])), (q_8, .inl (cA_9, 400, .inl (fun _ => 0)))] H ∧ va_D A [(h0, .inr (7, [.ref a_f, .ref q_1, .int 0, .int 0, .int 0, .int 0])), (q_1, .inl (cA_2, 4, .inr (.inr (.inr (.inr (f9)))))), (q_3, .inr (6, [.ref q_4, .int 0])), (q_4, .inl (cA_5, 400, .inl (fun _ => 0))), (q_7, .inr (6, [.ref q_8, .int 0])), (q_8, .inl (cA_9, 400, .inl (fun _ => 0)))] := ⟨_, hP, hD⟩
  refine lv_iinc (v := 2) (lv' := [(2, .int 2), (0, .ref h0), (1, .ref a_f)]) hx hb dX7_init_40 hl (k := 0) rfl (by decide) (by decide) rfl (fun ls hl => ?_)
  refine lv_goto (tgt := 19) hx hb dX7_init_43 (by decide) ?_
  refine lv_iload_n hx hb dX7_init_19 rfl (lv_at hl 0 rfl) ?_
  refine lv_iconst (v := 4) hx hb dX7_init_20 (by decide) ?_
  refine lv_icmp_ge (tgt := 46) hx hb dX7_init_21 (by decide) (fun c9 => absurd c9 (by decide)) (fun _ => ?_)
  refine lv_aload_n hx hb dX7_init_24 rfl (lv_at hl 1 rfl) ?_
  refine va_get (D := (dC, dI)) (ci := 7) (v := .ref q_1) (C := RX7) (T := TX7) (N := 6) hx hb hts (by decide +kernel) hown hK hP 0 rfl rfl 1 (by decide) (hts (.fieldLink RX7 13 "ProofBench$Search" "letters" "[LProofBench$Row;") (by decide +kernel)) (fun _ h9 => h9) rfl dX7_init_25 ?_
  refine lv_iload_n hx hb dX7_init_28 rfl (lv_at hl 0 rfl) ?_
  refine va_new (ci := 6) (fs := [.null, .int 0]) (C := RX6) (T := TX6) (N := 2) hx hb hts (by decide +kernel) tyX6 tyX6_ok hown (hts (.classLink RX7 11 RX6) (by decide +kernel)) (hts (.instantiable RX6 2) (by decide +kernel)) (hts (.initialized RX6) (by decide +kernel)) hK hP hD hS hA rfl (fun j hj => by rcases (show j = 0 ∨ j = 1 by omega) with rfl | rfl <;> rfl) (show 5 + 1 ≤ 9 by omega) (show 808 + 2 ≤ 1612 by omega) dX7_init_29 (fun q_11 H hP hD hS => ?_)
  have hP : va_P (dC, dI) vwCl [(h0, .inr (7, [.ref a_f, .ref q_1, .int 0, .int 0, .int 0, .int 0])), (q_1, .inl (cA_2, 4, .inr (.inr (.inr (.inr (f_10)))))), (q_3, .inr (6, [.ref q_4, .int 0])), (q_4, .inl (cA_5, 400, .inl (fun _ => 0))), (q_7, .inr (6, [.ref q_8, .int 0])), (q_8, .inl (cA_9, 400, .inl (fun _ => 0))), (q_11, .inr (6, [.null, .int 0]))] H := hP
  have hD : va_D A [(h0, .inr (7, [.ref a_f, .ref q_1, .int 0, .int 0, .int 0, .int 0])), (q_1, .inl (cA_2, 4, .inr (.inr (.inr (.inr (f_10)))))), (q_3, .inr (6, [.ref q_4, .int 0])), (q_4, .inl (cA_5, 400, .inl (fun _ => 0))), (q_7, .inr (6, [.ref q_8, .int 0])), (q_8, .inl (cA_9, 400, .inl (fun _ => 0))), (q_11, .inr (6, [.null, .int 0]))] := hD
  refine W.widen (k := 6) (n := 810) (by omega) (by omega) ?_
  refine lv_dup hx hb dX7_init_32 rfl ?_
  refine lv_sipush (v := 400) hx hb dX7_init_33 (by decide) ?_
  have hPc := hP.sub (ws' := [(q_11, .inr (6, [.null, .int 0]))]) [6] rfl
  have hDc := hD.sub (ws' := [(q_11, .inr (6, [.null, .int 0]))]) [6] (by decide) rfl
  have hKc := hK.sub (tys' := []) [] rfl
  have hFc := va_free (wc := [(q_11, .inr (6, [.null, .int 0]))]) hD hS hA [6] rfl
  refine va_callv (va_runI (As := [.int 400]) (rest := [.ref q_11, .int 2, .ref q_1]) ⟨hx, hb, hml, hown, hts⟩ (c_Row_init l dC dI H.size q_11 400 400 (by decide) (by decide) (by decide)) (cwI 1 hts gX7_init_X6_init rfl rfl rfl (hts (.initialized RX6) (by decide +kernel)) (hts (.methodLink RX7 21 yX6_init) (by decide +kernel)) (hts (.instanceMethod yX6_init) (by decide +kernel)) rfl (by decide +kernel) ⟨Nat.le_of_ble_eq_true rfl, Nat.le_of_ble_eq_true rfl⟩) ⟨fun a U g mk q => by obtain ⟨q0, q1, qP, qK, qD⟩ := q; exact ⟨q0, q1, qP, va_K.moved (u := U) (U := U.calling g mk a) (Vm.Alike.refl U.vm) qK, qD⟩, fun U hU hW => ⟨rfl, by rw [hU], by rw [hU]; exact hPc, va_K.moved hW.alike hKc, hDc.weaken (fun _ _ _ _ => trivial)⟩⟩ rfl rfl hl.1 rfl (lv_room (Nat.le_of_ble_eq_true rfl)) dX7_init_36 ⟨(show 6 + 1 ≤ 9 by omega), (show 810 + 400 ≤ 1612 by omega)⟩) hS (fun q _ h => hFc q h) hFc (fun u t H1 locs ht hvm hw hB hz1 hk1 hS => ?_)
  obtain ⟨q_12, cA_13, hP1, hK1, hD1⟩ := hB
  rw [ht] at hP1
  have hK1 := va_K.moved hvm.symm hK1
  obtain ⟨hP, hD⟩ := va_join (wr := [(h0, .inr (7, [.ref a_f, .ref q_1, .int 0, .int 0, .int 0, .int 0])), (q_1, .inl (cA_2, 4, .inr (.inr (.inr (.inr (f_10)))))), (q_3, .inr (6, [.ref q_4, .int 0])), (q_4, .inl (cA_5, 400, .inl (fun _ => 0))), (q_7, .inr (6, [.ref q_8, .int 0])), (q_8, .inl (cA_9, 400, .inl (fun _ => 0)))]) (w1 := [(q_11, .inr (6, [.ref q_12, .int 0])), (q_12, .inl (cA_13, 400, .inl (fun _ => 0)))]) hP hD [6] [0, 1, 2, 3, 4, 5] rfl rfl (by decide) (by decide) hk1 hFc hP1 hD1
  have hK := (hK.sub (tys' := [(cA_2, .object RX6), (cA_5, .int), (cA_9, .int)]) [0, 1, 2] rfl).app hK1
  generalize H1 = H at hP hS ⊢
  have hP : va_P (dC, dI) vwCl [(h0, .inr (7, [.ref a_f, .ref q_1, .int 0, .int 0, .int 0, .int 0])), (q_1, .inl (cA_2, 4, .inr (.inr (.inr (.inr (f_10)))))), (q_3, .inr (6, [.ref q_4, .int 0])), (q_4, .inl (cA_5, 400, .inl (fun _ => 0))), (q_7, .inr (6, [.ref q_8, .int 0])), (q_8, .inl (cA_9, 400, .inl (fun _ => 0))), (q_11, .inr (6, [.ref q_12, .int 0])), (q_12, .inl (cA_13, 400, .inl (fun _ => 0)))] H := hP
  have hD : va_D A [(h0, .inr (7, [.ref a_f, .ref q_1, .int 0, .int 0, .int 0, .int 0])), (q_1, .inl (cA_2, 4, .inr (.inr (.inr (.inr (f_10)))))), (q_3, .inr (6, [.ref q_4, .int 0])), (q_4, .inl (cA_5, 400, .inl (fun _ => 0))), (q_7, .inr (6, [.ref q_8, .int 0])), (q_8, .inl (cA_9, 400, .inl (fun _ => 0))), (q_11, .inr (6, [.ref q_12, .int 0])), (q_12, .inl (cA_13, 400, .inl (fun _ => 0)))] := hD
  have hK : va_K (dC, dI) vwCl [(cA_2, .object RX6), (cA_5, .int), (cA_9, .int), (cA_13, .int)] s := hK
  refine W.widen (k := 7) (n := 1210) (by omega) (by omega) ?_
  refine va_astq (r := (RX6, TX6, 2)) hx hb hK hP hD hS 1 0 6 6 rfl rfl rfl rfl (show vp_in (2) 4 from by unfold vp_in; decide) dX7_init_39 (fun H locs hP hD hS => ?_)
  obtain ⟨f_14, hP, hD⟩ : ∃ f9 : Nat → Option Nat, va_P (dC, dI) vwCl [(h0, .inr (7, [.ref a_f, .ref q_1, .int 0, .int 0, .int 0, .int 0])), (q_1, .inl (cA_2, 4, .inr (.inr (.inr (.inr (f9)))))), (q_3, .inr (6, [.ref q_4, .int 0])), (q_4, .inl (cA_5, 400, .inl (fun _ => 0))), (q_7, .inr (6, [.ref q_8, .int 0])), (q_8, .inl (cA_9, 400, .inl (fun _ => 0))), (q_11, .inr (6, [.ref q_12, .int 0])), (q_12, .inl (cA_13, 400, .inl (fun _ => 0)))] H ∧ va_D A [(h0, .inr (7, [.ref a_f, .ref q_1, .int 0, .int 0, .int 0, .int 0])), (q_1, .inl (cA_2, 4, .inr (.inr (.inr (.inr (f9)))))), (q_3, .inr (6, [.ref q_4, .int 0])), (q_4, .inl (cA_5, 400, .inl (fun _ => 0))), (q_7, .inr (6, [.ref q_8, .int 0])), (q_8, .inl (cA_9, 400, .inl (fun _ => 0))), (q_11, .inr (6, [.ref q_12, .int 0])), (q_12, .inl (cA_13, 400, .inl (fun _ => 0)))] := ⟨_, hP, hD⟩
  refine lv_iinc (v := 3) (lv' := [(2, .int 3), (0, .ref h0), (1, .ref a_f)]) hx hb dX7_init_40 hl (k := 0) rfl (by decide) (by decide) rfl (fun ls hl => ?_)
  refine lv_goto (tgt := 19) hx hb dX7_init_43 (by decide) ?_
  refine lv_iload_n hx hb dX7_init_19 rfl (lv_at hl 0 rfl) ?_
  refine lv_iconst (v := 4) hx hb dX7_init_20 (by decide) ?_
  refine lv_icmp_ge (tgt := 46) hx hb dX7_init_21 (by decide) (fun c9 => absurd c9 (by decide)) (fun _ => ?_)
  refine lv_aload_n hx hb dX7_init_24 rfl (lv_at hl 1 rfl) ?_
  refine va_get (D := (dC, dI)) (ci := 7) (v := .ref q_1) (C := RX7) (T := TX7) (N := 6) hx hb hts (by decide +kernel) hown hK hP 0 rfl rfl 1 (by decide) (hts (.fieldLink RX7 13 "ProofBench$Search" "letters" "[LProofBench$Row;") (by decide +kernel)) (fun _ h9 => h9) rfl dX7_init_25 ?_
  refine lv_iload_n hx hb dX7_init_28 rfl (lv_at hl 0 rfl) ?_
  refine va_new (ci := 6) (fs := [.null, .int 0]) (C := RX6) (T := TX6) (N := 2) hx hb hts (by decide +kernel) tyX6 tyX6_ok hown (hts (.classLink RX7 11 RX6) (by decide +kernel)) (hts (.instantiable RX6 2) (by decide +kernel)) (hts (.initialized RX6) (by decide +kernel)) hK hP hD hS hA rfl (fun j hj => by rcases (show j = 0 ∨ j = 1 by omega) with rfl | rfl <;> rfl) (show 7 + 1 ≤ 9 by omega) (show 1210 + 2 ≤ 1612 by omega) dX7_init_29 (fun q_15 H hP hD hS => ?_)
  have hP : va_P (dC, dI) vwCl [(h0, .inr (7, [.ref a_f, .ref q_1, .int 0, .int 0, .int 0, .int 0])), (q_1, .inl (cA_2, 4, .inr (.inr (.inr (.inr (f_14)))))), (q_3, .inr (6, [.ref q_4, .int 0])), (q_4, .inl (cA_5, 400, .inl (fun _ => 0))), (q_7, .inr (6, [.ref q_8, .int 0])), (q_8, .inl (cA_9, 400, .inl (fun _ => 0))), (q_11, .inr (6, [.ref q_12, .int 0])), (q_12, .inl (cA_13, 400, .inl (fun _ => 0))), (q_15, .inr (6, [.null, .int 0]))] H := hP
  have hD : va_D A [(h0, .inr (7, [.ref a_f, .ref q_1, .int 0, .int 0, .int 0, .int 0])), (q_1, .inl (cA_2, 4, .inr (.inr (.inr (.inr (f_14)))))), (q_3, .inr (6, [.ref q_4, .int 0])), (q_4, .inl (cA_5, 400, .inl (fun _ => 0))), (q_7, .inr (6, [.ref q_8, .int 0])), (q_8, .inl (cA_9, 400, .inl (fun _ => 0))), (q_11, .inr (6, [.ref q_12, .int 0])), (q_12, .inl (cA_13, 400, .inl (fun _ => 0))), (q_15, .inr (6, [.null, .int 0]))] := hD
  refine W.widen (k := 8) (n := 1212) (by omega) (by omega) ?_
  refine lv_dup hx hb dX7_init_32 rfl ?_
  refine lv_sipush (v := 400) hx hb dX7_init_33 (by decide) ?_
  have hPc := hP.sub (ws' := [(q_15, .inr (6, [.null, .int 0]))]) [8] rfl
  have hDc := hD.sub (ws' := [(q_15, .inr (6, [.null, .int 0]))]) [8] (by decide) rfl
  have hKc := hK.sub (tys' := []) [] rfl
  have hFc := va_free (wc := [(q_15, .inr (6, [.null, .int 0]))]) hD hS hA [8] rfl
  refine va_callv (va_runI (As := [.int 400]) (rest := [.ref q_15, .int 3, .ref q_1]) ⟨hx, hb, hml, hown, hts⟩ (c_Row_init l dC dI H.size q_15 400 400 (by decide) (by decide) (by decide)) (cwI 1 hts gX7_init_X6_init rfl rfl rfl (hts (.initialized RX6) (by decide +kernel)) (hts (.methodLink RX7 21 yX6_init) (by decide +kernel)) (hts (.instanceMethod yX6_init) (by decide +kernel)) rfl (by decide +kernel) ⟨Nat.le_of_ble_eq_true rfl, Nat.le_of_ble_eq_true rfl⟩) ⟨fun a U g mk q => by obtain ⟨q0, q1, qP, qK, qD⟩ := q; exact ⟨q0, q1, qP, va_K.moved (u := U) (U := U.calling g mk a) (Vm.Alike.refl U.vm) qK, qD⟩, fun U hU hW => ⟨rfl, by rw [hU], by rw [hU]; exact hPc, va_K.moved hW.alike hKc, hDc.weaken (fun _ _ _ _ => trivial)⟩⟩ rfl rfl hl.1 rfl (lv_room (Nat.le_of_ble_eq_true rfl)) dX7_init_36 ⟨(show 8 + 1 ≤ 9 by omega), (show 1212 + 400 ≤ 1612 by omega)⟩) hS (fun q _ h => hFc q h) hFc (fun u t H1 locs ht hvm hw hB hz1 hk1 hS => ?_)
  obtain ⟨q_16, cA_17, hP1, hK1, hD1⟩ := hB
  rw [ht] at hP1
  have hK1 := va_K.moved hvm.symm hK1
  obtain ⟨hP, hD⟩ := va_join (wr := [(h0, .inr (7, [.ref a_f, .ref q_1, .int 0, .int 0, .int 0, .int 0])), (q_1, .inl (cA_2, 4, .inr (.inr (.inr (.inr (f_14)))))), (q_3, .inr (6, [.ref q_4, .int 0])), (q_4, .inl (cA_5, 400, .inl (fun _ => 0))), (q_7, .inr (6, [.ref q_8, .int 0])), (q_8, .inl (cA_9, 400, .inl (fun _ => 0))), (q_11, .inr (6, [.ref q_12, .int 0])), (q_12, .inl (cA_13, 400, .inl (fun _ => 0)))]) (w1 := [(q_15, .inr (6, [.ref q_16, .int 0])), (q_16, .inl (cA_17, 400, .inl (fun _ => 0)))]) hP hD [8] [0, 1, 2, 3, 4, 5, 6, 7] rfl rfl (by decide) (by decide) hk1 hFc hP1 hD1
  have hK := (hK.sub (tys' := [(cA_2, .object RX6), (cA_5, .int), (cA_9, .int), (cA_13, .int)]) [0, 1, 2, 3] rfl).app hK1
  generalize H1 = H at hP hS ⊢
  have hP : va_P (dC, dI) vwCl [(h0, .inr (7, [.ref a_f, .ref q_1, .int 0, .int 0, .int 0, .int 0])), (q_1, .inl (cA_2, 4, .inr (.inr (.inr (.inr (f_14)))))), (q_3, .inr (6, [.ref q_4, .int 0])), (q_4, .inl (cA_5, 400, .inl (fun _ => 0))), (q_7, .inr (6, [.ref q_8, .int 0])), (q_8, .inl (cA_9, 400, .inl (fun _ => 0))), (q_11, .inr (6, [.ref q_12, .int 0])), (q_12, .inl (cA_13, 400, .inl (fun _ => 0))), (q_15, .inr (6, [.ref q_16, .int 0])), (q_16, .inl (cA_17, 400, .inl (fun _ => 0)))] H := hP
  have hD : va_D A [(h0, .inr (7, [.ref a_f, .ref q_1, .int 0, .int 0, .int 0, .int 0])), (q_1, .inl (cA_2, 4, .inr (.inr (.inr (.inr (f_14)))))), (q_3, .inr (6, [.ref q_4, .int 0])), (q_4, .inl (cA_5, 400, .inl (fun _ => 0))), (q_7, .inr (6, [.ref q_8, .int 0])), (q_8, .inl (cA_9, 400, .inl (fun _ => 0))), (q_11, .inr (6, [.ref q_12, .int 0])), (q_12, .inl (cA_13, 400, .inl (fun _ => 0))), (q_15, .inr (6, [.ref q_16, .int 0])), (q_16, .inl (cA_17, 400, .inl (fun _ => 0)))] := hD
  have hK : va_K (dC, dI) vwCl [(cA_2, .object RX6), (cA_5, .int), (cA_9, .int), (cA_13, .int), (cA_17, .int)] s := hK
  refine W.widen (k := 9) (n := 1612) (by omega) (by omega) ?_
  refine va_astq (r := (RX6, TX6, 2)) hx hb hK hP hD hS 1 0 8 6 rfl rfl rfl rfl (show vp_in (3) 4 from by unfold vp_in; decide) dX7_init_39 (fun H locs hP hD hS => ?_)
  obtain ⟨f_18, hP, hD⟩ : ∃ f9 : Nat → Option Nat, va_P (dC, dI) vwCl [(h0, .inr (7, [.ref a_f, .ref q_1, .int 0, .int 0, .int 0, .int 0])), (q_1, .inl (cA_2, 4, .inr (.inr (.inr (.inr (f9)))))), (q_3, .inr (6, [.ref q_4, .int 0])), (q_4, .inl (cA_5, 400, .inl (fun _ => 0))), (q_7, .inr (6, [.ref q_8, .int 0])), (q_8, .inl (cA_9, 400, .inl (fun _ => 0))), (q_11, .inr (6, [.ref q_12, .int 0])), (q_12, .inl (cA_13, 400, .inl (fun _ => 0))), (q_15, .inr (6, [.ref q_16, .int 0])), (q_16, .inl (cA_17, 400, .inl (fun _ => 0)))] H ∧ va_D A [(h0, .inr (7, [.ref a_f, .ref q_1, .int 0, .int 0, .int 0, .int 0])), (q_1, .inl (cA_2, 4, .inr (.inr (.inr (.inr (f9)))))), (q_3, .inr (6, [.ref q_4, .int 0])), (q_4, .inl (cA_5, 400, .inl (fun _ => 0))), (q_7, .inr (6, [.ref q_8, .int 0])), (q_8, .inl (cA_9, 400, .inl (fun _ => 0))), (q_11, .inr (6, [.ref q_12, .int 0])), (q_12, .inl (cA_13, 400, .inl (fun _ => 0))), (q_15, .inr (6, [.ref q_16, .int 0])), (q_16, .inl (cA_17, 400, .inl (fun _ => 0)))] := ⟨_, hP, hD⟩
  refine lv_iinc (v := 4) (lv' := [(2, .int 4), (0, .ref h0), (1, .ref a_f)]) hx hb dX7_init_40 hl (k := 0) rfl (by decide) (by decide) rfl (fun ls hl => ?_)
  refine lv_goto (tgt := 19) hx hb dX7_init_43 (by decide) ?_
  refine lv_iload_n hx hb dX7_init_19 rfl (lv_at hl 0 rfl) ?_
  refine lv_iconst (v := 4) hx hb dX7_init_20 (by decide) ?_
  refine lv_icmp_ge (tgt := 46) hx hb dX7_init_21 (by decide) (fun _ => ?_) (fun c9 => absurd c9 (by decide))
  have hP9 := hP.sub (ws' := []) [] rfl
  have hD9 := hD.sub (ws' := []) [] (by decide) rfl
  have hK9 := hK.sub (tys' := []) [] rfl
  refine W.widen (k := 9) (n := 1612) (by omega) (by omega) ?_
  exact W.vret hx hb hr (fun t ht hW => ⟨⟨(), rfl, trivial, by rw [ht]; exact hP9, va_K.moved hW.alike hK9, hD9⟩, hS.F ht⟩) hS.2.2 dX7_init_46
set_option maxHeartbeats 1000000 in
set_option maxRecDepth 100000 in
/-- Arrays.fill of a row of six -/
theorem c_fill6 (l : Launch) (dC : Nat → ClassId) (dI : Nat → Nat → Nat) (sz : Nat) (h0 : Nat) (cA : ClassId) (f : Nat → Int32) (x : Int32) : Met l yJ7_fill_53178 wsJ7_fill_53178 ({ frames := 0, cells := 0, slots := 0, locals := 0 }) (va_Pc [.ref h0, .int x] (fun U => U.heap.size = sz ∧ va_P (dC, dI) vwCl [(h0, .inl (cA, 6, .inl (f)))] U.heap ∧ va_K (dC, dI) vwCl [(cA, .int)] U ∧ va_D (fun _ => True) [(h0, .inl (cA, 6, .inl (f)))])) (va_Qv (fun _ : Unit => True) (fun _ t => va_P (dC, dI) vwCl [] t.heap ∧ va_K (dC, dI) vwCl [] t ∧ va_D (va_A [(h0, .inl (cA, 6, .inl (f)))] sz) []) (va_A [(h0, .inl (cA, 6, .inl (f)))] sz)) (0) (0) (va_A [(h0, .inl (cA, 6, .inl (f)))] sz) := by
  refine Met.ofW (cc := cJ7_fill_53178) (maxL := 4) (ret := none) (by decide) rfl ?_
  intro p e s m args below meth c s₁ B hml hv
  obtain ⟨rfl, hsz, hP, hK, hD0⟩ := hv
  have hx := B.exec
  have hb := B.bytes
  have hr := B.returns
  have hts := atoms_spec (ws := wsJ7_fill_53178) B.pre
  have hown : s.vm.findClass RJ7 = some m.cls := findClass_of_methodNamed B.named
  have hlocks := B.notSynchronized
  subst hsz
  have hD := hD0.self (sz := s.heap.size)
  generalize hAe : va_A [(h0, .inl (cA, 6, .inl (f)))] s.heap.size = A at hD ⊢
  have hA : ∀ q : Nat, s.heap.size ≤ q → A q := fun q h => by rw [← hAe]; exact Or.inr h
  have hS : va_S A s.heap s.heap [] := va_S.rf
  have hl := lv_entry ([.ref h0, .int x]) (n := 4) (Nat.le_of_ble_eq_true rfl)
  rw [lg_entry_eq]
  generalize (lg_sl ([.ref h0, .int x]) ++ List.replicate (4 - (lg_sl ([.ref h0, .int x])).length) Slot.unset).toArray = ls at hl ⊢
  have hl : lv_has ls 4 [(0, .ref h0), (1, .int x)] := hl
  refine lv_iconst (v := 0) hx hb dJ7_fill_53178_0 (by decide) ?_
  refine lv_istore_n (lv' := [(2, .int 0), (0, .ref h0), (1, .int x)]) hx hb dJ7_fill_53178_1 rfl hl (by decide) rfl (fun ls hl => ?_)
  refine lv_aload_n hx hb dJ7_fill_53178_2 rfl (lv_at hl 1 rfl) ?_
  refine va_alen hx hb hK hP 0 0 rfl rfl (v := 6) (show Int32.ofNat 6 = 6 from by decide) dJ7_fill_53178_3 ?_
  refine lv_istore_n (lv' := [(3, .int 6), (2, .int 0), (0, .ref h0), (1, .int x)]) hx hb dJ7_fill_53178_4 rfl hl (by decide) rfl (fun ls hl => ?_)
  refine lv_iload_n hx hb dJ7_fill_53178_5 rfl (lv_at hl 1 rfl) ?_
  refine lv_iload_n hx hb dJ7_fill_53178_6 rfl (lv_at hl 0 rfl) ?_
  refine lv_icmp_ge (tgt := 20) hx hb dJ7_fill_53178_7 (by decide) (fun c9 => absurd c9 (by decide)) (fun _ => ?_)
  refine lv_aload_n hx hb dJ7_fill_53178_10 rfl (lv_at hl 2 rfl) ?_
  refine lv_iload_n hx hb dJ7_fill_53178_11 rfl (lv_at hl 1 rfl) ?_
  refine lv_iload_n hx hb dJ7_fill_53178_12 rfl (lv_at hl 3 rfl) ?_
  refine va_iast hx hb hK hP hD hS 0 0 rfl rfl (show vp_in (0) 6 from by unfold vp_in; decide) dJ7_fill_53178_13 (fun H locs hP hD hS => ?_)
  obtain ⟨f_1, hP, hD⟩ : ∃ f9 : Nat → Int32, va_P (dC, dI) vwCl [(h0, .inl (cA, 6, .inl (f9)))] H ∧ va_D A [(h0, .inl (cA, 6, .inl (f9)))] := ⟨_, hP, hD⟩
  refine lv_iinc (v := 1) (lv' := [(2, .int 1), (3, .int 6), (0, .ref h0), (1, .int x)]) hx hb dJ7_fill_53178_14 hl (k := 1) rfl (by decide) (by decide) rfl (fun ls hl => ?_)
  refine lv_goto (tgt := 5) hx hb dJ7_fill_53178_17 (by decide) ?_
  refine lv_iload_n hx hb dJ7_fill_53178_5 rfl (lv_at hl 0 rfl) ?_
  refine lv_iload_n hx hb dJ7_fill_53178_6 rfl (lv_at hl 1 rfl) ?_
  refine lv_icmp_ge (tgt := 20) hx hb dJ7_fill_53178_7 (by decide) (fun c9 => absurd c9 (by decide)) (fun _ => ?_)
  refine lv_aload_n hx hb dJ7_fill_53178_10 rfl (lv_at hl 2 rfl) ?_
  refine lv_iload_n hx hb dJ7_fill_53178_11 rfl (lv_at hl 0 rfl) ?_
  refine lv_iload_n hx hb dJ7_fill_53178_12 rfl (lv_at hl 3 rfl) ?_
  refine va_iast hx hb hK hP hD hS 0 0 rfl rfl (show vp_in (1) 6 from by unfold vp_in; decide) dJ7_fill_53178_13 (fun H locs hP hD hS => ?_)
  obtain ⟨f_2, hP, hD⟩ : ∃ f9 : Nat → Int32, va_P (dC, dI) vwCl [(h0, .inl (cA, 6, .inl (f9)))] H ∧ va_D A [(h0, .inl (cA, 6, .inl (f9)))] := ⟨_, hP, hD⟩
  refine lv_iinc (v := 2) (lv' := [(2, .int 2), (3, .int 6), (0, .ref h0), (1, .int x)]) hx hb dJ7_fill_53178_14 hl (k := 0) rfl (by decide) (by decide) rfl (fun ls hl => ?_)
  refine lv_goto (tgt := 5) hx hb dJ7_fill_53178_17 (by decide) ?_
  refine lv_iload_n hx hb dJ7_fill_53178_5 rfl (lv_at hl 0 rfl) ?_
  refine lv_iload_n hx hb dJ7_fill_53178_6 rfl (lv_at hl 1 rfl) ?_
  refine lv_icmp_ge (tgt := 20) hx hb dJ7_fill_53178_7 (by decide) (fun c9 => absurd c9 (by decide)) (fun _ => ?_)
  refine lv_aload_n hx hb dJ7_fill_53178_10 rfl (lv_at hl 2 rfl) ?_
  refine lv_iload_n hx hb dJ7_fill_53178_11 rfl (lv_at hl 0 rfl) ?_
  refine lv_iload_n hx hb dJ7_fill_53178_12 rfl (lv_at hl 3 rfl) ?_
  refine va_iast hx hb hK hP hD hS 0 0 rfl rfl (show vp_in (2) 6 from by unfold vp_in; decide) dJ7_fill_53178_13 (fun H locs hP hD hS => ?_)
  obtain ⟨f_3, hP, hD⟩ : ∃ f9 : Nat → Int32, va_P (dC, dI) vwCl [(h0, .inl (cA, 6, .inl (f9)))] H ∧ va_D A [(h0, .inl (cA, 6, .inl (f9)))] := ⟨_, hP, hD⟩
  refine lv_iinc (v := 3) (lv' := [(2, .int 3), (3, .int 6), (0, .ref h0), (1, .int x)]) hx hb dJ7_fill_53178_14 hl (k := 0) rfl (by decide) (by decide) rfl (fun ls hl => ?_)
  refine lv_goto (tgt := 5) hx hb dJ7_fill_53178_17 (by decide) ?_
  refine lv_iload_n hx hb dJ7_fill_53178_5 rfl (lv_at hl 0 rfl) ?_
  refine lv_iload_n hx hb dJ7_fill_53178_6 rfl (lv_at hl 1 rfl) ?_
  refine lv_icmp_ge (tgt := 20) hx hb dJ7_fill_53178_7 (by decide) (fun c9 => absurd c9 (by decide)) (fun _ => ?_)
  refine lv_aload_n hx hb dJ7_fill_53178_10 rfl (lv_at hl 2 rfl) ?_
  refine lv_iload_n hx hb dJ7_fill_53178_11 rfl (lv_at hl 0 rfl) ?_
  refine lv_iload_n hx hb dJ7_fill_53178_12 rfl (lv_at hl 3 rfl) ?_
  refine va_iast hx hb hK hP hD hS 0 0 rfl rfl (show vp_in (3) 6 from by unfold vp_in; decide) dJ7_fill_53178_13 (fun H locs hP hD hS => ?_)
  obtain ⟨f_4, hP, hD⟩ : ∃ f9 : Nat → Int32, va_P (dC, dI) vwCl [(h0, .inl (cA, 6, .inl (f9)))] H ∧ va_D A [(h0, .inl (cA, 6, .inl (f9)))] := ⟨_, hP, hD⟩
  refine lv_iinc (v := 4) (lv' := [(2, .int 4), (3, .int 6), (0, .ref h0), (1, .int x)]) hx hb dJ7_fill_53178_14 hl (k := 0) rfl (by decide) (by decide) rfl (fun ls hl => ?_)
  refine lv_goto (tgt := 5) hx hb dJ7_fill_53178_17 (by decide) ?_
  refine lv_iload_n hx hb dJ7_fill_53178_5 rfl (lv_at hl 0 rfl) ?_
  refine lv_iload_n hx hb dJ7_fill_53178_6 rfl (lv_at hl 1 rfl) ?_
  refine lv_icmp_ge (tgt := 20) hx hb dJ7_fill_53178_7 (by decide) (fun c9 => absurd c9 (by decide)) (fun _ => ?_)
  refine lv_aload_n hx hb dJ7_fill_53178_10 rfl (lv_at hl 2 rfl) ?_
  refine lv_iload_n hx hb dJ7_fill_53178_11 rfl (lv_at hl 0 rfl) ?_
  refine lv_iload_n hx hb dJ7_fill_53178_12 rfl (lv_at hl 3 rfl) ?_
  refine va_iast hx hb hK hP hD hS 0 0 rfl rfl (show vp_in (4) 6 from by unfold vp_in; decide) dJ7_fill_53178_13 (fun H locs hP hD hS => ?_)
  obtain ⟨f_5, hP, hD⟩ : ∃ f9 : Nat → Int32, va_P (dC, dI) vwCl [(h0, .inl (cA, 6, .inl (f9)))] H ∧ va_D A [(h0, .inl (cA, 6, .inl (f9)))] := ⟨_, hP, hD⟩
  refine lv_iinc (v := 5) (lv' := [(2, .int 5), (3, .int 6), (0, .ref h0), (1, .int x)]) hx hb dJ7_fill_53178_14 hl (k := 0) rfl (by decide) (by decide) rfl (fun ls hl => ?_)
  refine lv_goto (tgt := 5) hx hb dJ7_fill_53178_17 (by decide) ?_
  refine lv_iload_n hx hb dJ7_fill_53178_5 rfl (lv_at hl 0 rfl) ?_
  refine lv_iload_n hx hb dJ7_fill_53178_6 rfl (lv_at hl 1 rfl) ?_
  refine lv_icmp_ge (tgt := 20) hx hb dJ7_fill_53178_7 (by decide) (fun c9 => absurd c9 (by decide)) (fun _ => ?_)
  refine lv_aload_n hx hb dJ7_fill_53178_10 rfl (lv_at hl 2 rfl) ?_
  refine lv_iload_n hx hb dJ7_fill_53178_11 rfl (lv_at hl 0 rfl) ?_
  refine lv_iload_n hx hb dJ7_fill_53178_12 rfl (lv_at hl 3 rfl) ?_
  refine va_iast hx hb hK hP hD hS 0 0 rfl rfl (show vp_in (5) 6 from by unfold vp_in; decide) dJ7_fill_53178_13 (fun H locs hP hD hS => ?_)
  obtain ⟨f_6, hP, hD⟩ : ∃ f9 : Nat → Int32, va_P (dC, dI) vwCl [(h0, .inl (cA, 6, .inl (f9)))] H ∧ va_D A [(h0, .inl (cA, 6, .inl (f9)))] := ⟨_, hP, hD⟩
  refine lv_iinc (v := 6) (lv' := [(2, .int 6), (3, .int 6), (0, .ref h0), (1, .int x)]) hx hb dJ7_fill_53178_14 hl (k := 0) rfl (by decide) (by decide) rfl (fun ls hl => ?_)
  refine lv_goto (tgt := 5) hx hb dJ7_fill_53178_17 (by decide) ?_
  refine lv_iload_n hx hb dJ7_fill_53178_5 rfl (lv_at hl 0 rfl) ?_
  refine lv_iload_n hx hb dJ7_fill_53178_6 rfl (lv_at hl 1 rfl) ?_
  refine lv_icmp_ge (tgt := 20) hx hb dJ7_fill_53178_7 (by decide) (fun _ => ?_) (fun c9 => absurd c9 (by decide))
  have hP9 := hP.sub (ws' := []) [] rfl
  have hD9 := hD.sub (ws' := []) [] (by decide) rfl
  have hK9 := hK.sub (tys' := []) [] rfl
  refine W.widen (k := 0) (n := 0) (by omega) (by omega) ?_
  exact W.vret hx hb hr (fun t ht hW => ⟨⟨(), rfl, trivial, by rw [ht]; exact hP9, va_K.moved hW.alike hK9, hD9⟩, hS.F ht⟩) hS.2.2 dJ7_fill_53178_20
set_option maxHeartbeats 1000000 in
set_option maxRecDepth 100000 in
/-- Model(names, forms) -/
theorem c_Model_init (l : Launch) (dC : Nat → ClassId) (dI : Nat → Nat → Nat) (sz : Nat) (h0 a_n a_f : Nat) : Met l yX2_init wsX2_init ({ frames := 1, cells := 3, slots := 2596, locals := 23 }) (va_Pc [.ref h0, .ref a_n, .ref a_f] (fun U => U.heap.size = sz ∧ va_P (dC, dI) vwCl [(h0, .inr (2, [.null, .null, .null, .null, .null, .int 0]))] U.heap ∧ va_K (dC, dI) vwCl [] U ∧ va_D (fun _ => True) [(h0, .inr (2, [.null, .null, .null, .null, .null, .int 0]))])) (va_Qv (fun _ : Unit => True) (fun _ t => va_P (dC, dI) vwCl [] t.heap ∧ va_K (dC, dI) vwCl [] t ∧ va_D (va_A [(h0, .inr (2, [.null, .null, .null, .null, .null, .int 0]))] sz) []) (va_A [(h0, .inr (2, [.null, .null, .null, .null, .null, .int 0]))] sz)) (3) (2596) (va_A [(h0, .inr (2, [.null, .null, .null, .null, .null, .int 0]))] sz) := by
  refine Met.ofW (cc := cX2_init) (maxL := 3) (ret := none) (by decide) rfl ?_
  intro p e s m args below meth c s₁ B hml hv
  obtain ⟨rfl, hsz, hP, hK, hD0⟩ := hv
  have hx := B.exec
  have hb := B.bytes
  have hr := B.returns
  have hts := atoms_spec (ws := wsX2_init) B.pre
  have hown : s.vm.findClass RX2 = some m.cls := findClass_of_methodNamed B.named
  have hlocks := B.notSynchronized
  have hin : meth.name = "<init>" := (name_of_methodNamed B.named B.method).1
  subst hsz
  have hD := hD0.self (sz := s.heap.size)
  generalize hAe : va_A [(h0, .inr (2, [.null, .null, .null, .null, .null, .int 0]))] s.heap.size = A at hD ⊢
  have hA : ∀ q : Nat, s.heap.size ≤ q → A q := fun q h => by rw [← hAe]; exact Or.inr h
  have hS : va_S A s.heap s.heap [] := va_S.rf
  have hl := lv_entry ([.ref h0, .ref a_n, .ref a_f]) (n := 3) (Nat.le_of_ble_eq_true rfl)
  rw [lg_entry_eq]
  generalize (lg_sl ([.ref h0, .ref a_n, .ref a_f]) ++ List.replicate (3 - (lg_sl ([.ref h0, .ref a_n, .ref a_f])).length) Slot.unset).toArray = ls at hl ⊢
  have hl : lv_has ls 3 [(0, .ref h0), (1, .ref a_n), (2, .ref a_f)] := hl
  refine lv_aload_n hx hb dX2_init_0 rfl (lv_at hl 0 rfl) ?_
  refine W.objInit hx hb hown (hts (.methodLink RX2 3 objectInit) (by decide +kernel)) (hts (.instanceMethod objectInit) (by decide +kernel)) (hts (.code objectInit ⟨#[0xb1]⟩ 1 none) (by decide +kernel)) rfl (by rw [hml]; exact hl.1) rfl dX2_init_1 (Nat.le_of_ble_eq_true rfl) (Nat.le_of_ble_eq_true rfl) ?_
  refine W.eq (g2 := F0 m 4 ls []) rfl ?_
  refine lv_aload_n hx hb dX2_init_4 rfl (lv_at hl 0 rfl) ?_
  refine lv_bipush (v := 6) hx hb dX2_init_5 (by decide) ?_
  refine va_newa (atype := .int) (n := 6) (N' := 6) (ty := .int) (a0 := (6, .inl (fun _ => 0))) hx hb (hts (.arrayClass .int) (by decide +kernel)) rfl hK hP hD hS hA (fun _ => rfl) (by decide) (by decide) (by decide) (show 0 + 1 ≤ 3 by omega) (show 0 + 6 ≤ 2596 by omega) dX2_init_7 (fun q_1 cA_2 H hK hP hD hS => ?_)
  have hP : va_P (dC, dI) vwCl [(h0, .inr (2, [.null, .null, .null, .null, .null, .int 0])), (q_1, .inl (cA_2, 6, .inl (fun _ => 0)))] H := hP
  have hD : va_D A [(h0, .inr (2, [.null, .null, .null, .null, .null, .int 0])), (q_1, .inl (cA_2, 6, .inl (fun _ => 0)))] := hD
  have hK : va_K (dC, dI) vwCl [(cA_2, .int)] s := hK
  refine W.widen (k := 1) (n := 6) (by omega) (by omega) ?_
  refine va_putF (D := (dC, dI)) (ci := 2) (v := .ref q_1) (ty := .array .int) (C := RX2) (T := TX2) (N := 6) hx hb hts (by decide +kernel) tyX2 tyX2_ok nmX2 hown hK hP hD hS 0 rfl rfl 2 (by decide) (hts (.fieldLink RX2 9 "ProofBench$Model" "sizes" "[I") (by decide +kernel)) (fun _ h9 => h9) rfl hin rfl (by decide +kernel) rfl rfl (Nat.le_of_ble_eq_true rfl) dX2_init_9 (fun H locs hP hD hS => ?_)
  have hP : va_P (dC, dI) vwCl [(h0, .inr (2, [.null, .null, .ref q_1, .null, .null, .int 0])), (q_1, .inl (cA_2, 6, .inl (fun _ => 0)))] H := hP
  have hD : va_D A [(h0, .inr (2, [.null, .null, .ref q_1, .null, .null, .int 0])), (q_1, .inl (cA_2, 6, .inl (fun _ => 0)))] := hD
  refine lv_aload_n hx hb dX2_init_12 rfl (lv_at hl 0 rfl) ?_
  refine lv_sipush (v := 2560) hx hb dX2_init_13 (by decide) ?_
  refine va_newa (atype := .int) (n := 2560) (N' := 2560) (ty := .int) (a0 := (2560, .inl (fun _ => 0))) hx hb (hts (.arrayClass .int) (by decide +kernel)) rfl hK hP hD hS hA (fun _ => rfl) (by decide) (by decide) (by decide) (show 1 + 1 ≤ 3 by omega) (show 6 + 2560 ≤ 2596 by omega) dX2_init_16 (fun q_3 cA_4 H hK hP hD hS => ?_)
  have hP : va_P (dC, dI) vwCl [(h0, .inr (2, [.null, .null, .ref q_1, .null, .null, .int 0])), (q_1, .inl (cA_2, 6, .inl (fun _ => 0))), (q_3, .inl (cA_4, 2560, .inl (fun _ => 0)))] H := hP
  have hD : va_D A [(h0, .inr (2, [.null, .null, .ref q_1, .null, .null, .int 0])), (q_1, .inl (cA_2, 6, .inl (fun _ => 0))), (q_3, .inl (cA_4, 2560, .inl (fun _ => 0)))] := hD
  have hK : va_K (dC, dI) vwCl [(cA_2, .int), (cA_4, .int)] s := hK
  refine W.widen (k := 2) (n := 2566) (by omega) (by omega) ?_
  refine va_putF (D := (dC, dI)) (ci := 2) (v := .ref q_3) (ty := .array .int) (C := RX2) (T := TX2) (N := 6) hx hb hts (by decide +kernel) tyX2 tyX2_ok nmX2 hown hK hP hD hS 0 rfl rfl 3 (by decide) (hts (.fieldLink RX2 15 "ProofBench$Model" "tables" "[I") (by decide +kernel)) (fun _ h9 => h9) rfl hin rfl (by decide +kernel) rfl rfl (Nat.le_of_ble_eq_true rfl) dX2_init_18 (fun H locs hP hD hS => ?_)
  have hP : va_P (dC, dI) vwCl [(h0, .inr (2, [.null, .null, .ref q_1, .ref q_3, .null, .int 0])), (q_1, .inl (cA_2, 6, .inl (fun _ => 0))), (q_3, .inl (cA_4, 2560, .inl (fun _ => 0)))] H := hP
  have hD : va_D A [(h0, .inr (2, [.null, .null, .ref q_1, .ref q_3, .null, .int 0])), (q_1, .inl (cA_2, 6, .inl (fun _ => 0))), (q_3, .inl (cA_4, 2560, .inl (fun _ => 0)))] := hD
  refine lv_aload_n hx hb dX2_init_21 rfl (lv_at hl 0 rfl) ?_
  refine lv_bipush (v := 30) hx hb dX2_init_22 (by decide) ?_
  refine va_newa (atype := .int) (n := 30) (N' := 30) (ty := .int) (a0 := (30, .inl (fun _ => 0))) hx hb (hts (.arrayClass .int) (by decide +kernel)) rfl hK hP hD hS hA (fun _ => rfl) (by decide) (by decide) (by decide) (show 2 + 1 ≤ 3 by omega) (show 2566 + 30 ≤ 2596 by omega) dX2_init_24 (fun q_5 cA_6 H hK hP hD hS => ?_)
  have hP : va_P (dC, dI) vwCl [(h0, .inr (2, [.null, .null, .ref q_1, .ref q_3, .null, .int 0])), (q_1, .inl (cA_2, 6, .inl (fun _ => 0))), (q_3, .inl (cA_4, 2560, .inl (fun _ => 0))), (q_5, .inl (cA_6, 30, .inl (fun _ => 0)))] H := hP
  have hD : va_D A [(h0, .inr (2, [.null, .null, .ref q_1, .ref q_3, .null, .int 0])), (q_1, .inl (cA_2, 6, .inl (fun _ => 0))), (q_3, .inl (cA_4, 2560, .inl (fun _ => 0))), (q_5, .inl (cA_6, 30, .inl (fun _ => 0)))] := hD
  have hK : va_K (dC, dI) vwCl [(cA_2, .int), (cA_4, .int), (cA_6, .int)] s := hK
  refine W.widen (k := 3) (n := 2596) (by omega) (by omega) ?_
  refine va_putF (D := (dC, dI)) (ci := 2) (v := .ref q_5) (ty := .array .int) (C := RX2) (T := TX2) (N := 6) hx hb hts (by decide +kernel) tyX2 tyX2_ok nmX2 hown hK hP hD hS 0 rfl rfl 4 (by decide) (hts (.fieldLink RX2 18 "ProofBench$Model" "things" "[I") (by decide +kernel)) (fun _ h9 => h9) rfl hin rfl (by decide +kernel) rfl rfl (Nat.le_of_ble_eq_true rfl) dX2_init_26 (fun H locs hP hD hS => ?_)
  have hP : va_P (dC, dI) vwCl [(h0, .inr (2, [.null, .null, .ref q_1, .ref q_3, .ref q_5, .int 0])), (q_1, .inl (cA_2, 6, .inl (fun _ => 0))), (q_3, .inl (cA_4, 2560, .inl (fun _ => 0))), (q_5, .inl (cA_6, 30, .inl (fun _ => 0)))] H := hP
  have hD : va_D A [(h0, .inr (2, [.null, .null, .ref q_1, .ref q_3, .ref q_5, .int 0])), (q_1, .inl (cA_2, 6, .inl (fun _ => 0))), (q_3, .inl (cA_4, 2560, .inl (fun _ => 0))), (q_5, .inl (cA_6, 30, .inl (fun _ => 0)))] := hD
  refine lv_aload_n hx hb dX2_init_29 rfl (lv_at hl 0 rfl) ?_
  refine lv_aload_n hx hb dX2_init_30 rfl (lv_at hl 1 rfl) ?_
  refine va_putF (D := (dC, dI)) (ci := 2) (v := .ref a_n) (ty := .object "ProofBench$Names") (C := RX2) (T := TX2) (N := 6) hx hb hts (by decide +kernel) tyX2 tyX2_ok nmX2 hown hK hP hD hS 0 rfl rfl 0 (by decide) (hts (.fieldLink RX2 21 "ProofBench$Model" "names" "LProofBench$Names;") (by decide +kernel)) (fun _ h9 => h9) rfl hin rfl (by decide +kernel) rfl rfl (Nat.le_of_ble_eq_true rfl) dX2_init_31 (fun H locs hP hD hS => ?_)
  have hP : va_P (dC, dI) vwCl [(h0, .inr (2, [.ref a_n, .null, .ref q_1, .ref q_3, .ref q_5, .int 0])), (q_1, .inl (cA_2, 6, .inl (fun _ => 0))), (q_3, .inl (cA_4, 2560, .inl (fun _ => 0))), (q_5, .inl (cA_6, 30, .inl (fun _ => 0)))] H := hP
  have hD : va_D A [(h0, .inr (2, [.ref a_n, .null, .ref q_1, .ref q_3, .ref q_5, .int 0])), (q_1, .inl (cA_2, 6, .inl (fun _ => 0))), (q_3, .inl (cA_4, 2560, .inl (fun _ => 0))), (q_5, .inl (cA_6, 30, .inl (fun _ => 0)))] := hD
  refine lv_aload_n hx hb dX2_init_34 rfl (lv_at hl 0 rfl) ?_
  refine lv_aload_n hx hb dX2_init_35 rfl (lv_at hl 2 rfl) ?_
  refine va_putF (D := (dC, dI)) (ci := 2) (v := .ref a_f) (ty := .object "ProofBench$Forms") (C := RX2) (T := TX2) (N := 6) hx hb hts (by decide +kernel) tyX2 tyX2_ok nmX2 hown hK hP hD hS 0 rfl rfl 1 (by decide) (hts (.fieldLink RX2 25 "ProofBench$Model" "forms" "LProofBench$Forms;") (by decide +kernel)) (fun _ h9 => h9) rfl hin rfl (by decide +kernel) rfl rfl (Nat.le_of_ble_eq_true rfl) dX2_init_36 (fun H locs hP hD hS => ?_)
  have hP : va_P (dC, dI) vwCl [(h0, .inr (2, [.ref a_n, .ref a_f, .ref q_1, .ref q_3, .ref q_5, .int 0])), (q_1, .inl (cA_2, 6, .inl (fun _ => 0))), (q_3, .inl (cA_4, 2560, .inl (fun _ => 0))), (q_5, .inl (cA_6, 30, .inl (fun _ => 0)))] H := hP
  have hD : va_D A [(h0, .inr (2, [.ref a_n, .ref a_f, .ref q_1, .ref q_3, .ref q_5, .int 0])), (q_1, .inl (cA_2, 6, .inl (fun _ => 0))), (q_3, .inl (cA_4, 2560, .inl (fun _ => 0))), (q_5, .inl (cA_6, 30, .inl (fun _ => 0)))] := hD
  refine lv_aload_n hx hb dX2_init_39 rfl (lv_at hl 0 rfl) ?_
  refine va_get (D := (dC, dI)) (ci := 2) (v := .ref q_1) (C := RX2) (T := TX2) (N := 6) hx hb hts (by decide +kernel) hown hK hP 0 rfl rfl 2 (by decide) (hts (.fieldLink RX2 9 "ProofBench$Model" "sizes" "[I") (by decide +kernel)) (fun _ h9 => h9) rfl dX2_init_40 ?_
  refine lv_iconst (v := 1) hx hb dX2_init_43 (by decide) ?_
  have hPc := hP.sub (ws' := [(q_1, .inl (cA_2, 6, .inl (fun _ => 0)))]) [1] rfl
  have hDc := hD.sub (ws' := [(q_1, .inl (cA_2, 6, .inl (fun _ => 0)))]) [1] (by decide) rfl
  have hKc := hK.sub (tys' := [(cA_2, .int)]) [0] rfl
  have hFc := va_free (wc := [(q_1, .inl (cA_2, 6, .inl (fun _ => 0)))]) hD hS hA [1] rfl
  refine va_callv (va_runS (As := [.ref q_1, .int 1]) (rest := []) ⟨hx, hb, hml, hown, hts⟩ (c_fill6 l dC dI H.size q_1 cA_2 (fun _ => 0) (1)) (va_cwS 2 hts gX2_init_J7_fill_53178 rfl rfl rfl (by decide +kernel) ⟨Nat.le_of_ble_eq_true rfl, Nat.le_of_ble_eq_true rfl⟩) ⟨fun a U g mk q => by obtain ⟨q0, q1, qP, qK, qD⟩ := q; exact ⟨q0, q1, qP, va_K.moved (u := U) (U := U.calling g mk a) (Vm.Alike.refl U.vm) qK, qD⟩, fun U hU hW => ⟨rfl, by rw [hU], by rw [hU]; exact hPc, va_K.moved hW.alike hKc, hDc.weaken (fun _ _ _ _ => trivial)⟩⟩ rfl rfl hl.1 rfl (lv_room (Nat.le_of_ble_eq_true rfl)) dX2_init_44 ⟨(show 3 + 0 ≤ 3 by omega), (show 2596 + 0 ≤ 2596 by omega)⟩) hS (fun q _ h => hFc q h) hFc (fun u t H1 locs ht hvm hw hB hz1 hk1 hS => ?_)
  obtain ⟨hP1, hK1, hD1⟩ := hB
  rw [ht] at hP1
  have hK1 := va_K.moved hvm.symm hK1
  obtain ⟨hP, hD⟩ := va_join (wr := [(h0, .inr (2, [.ref a_n, .ref a_f, .ref q_1, .ref q_3, .ref q_5, .int 0])), (q_3, .inl (cA_4, 2560, .inl (fun _ => 0))), (q_5, .inl (cA_6, 30, .inl (fun _ => 0)))]) (w1 := []) hP hD [1] [0, 2, 3] rfl rfl (by decide) (by decide) hk1 hFc hP1 hD1
  have hK := (hK.sub (tys' := [(cA_2, .int), (cA_4, .int), (cA_6, .int)]) [0, 1, 2] rfl).app hK1
  generalize H1 = H at hP hS ⊢
  have hP : va_P (dC, dI) vwCl [(h0, .inr (2, [.ref a_n, .ref a_f, .ref q_1, .ref q_3, .ref q_5, .int 0])), (q_3, .inl (cA_4, 2560, .inl (fun _ => 0))), (q_5, .inl (cA_6, 30, .inl (fun _ => 0)))] H := hP
  have hD : va_D A [(h0, .inr (2, [.ref a_n, .ref a_f, .ref q_1, .ref q_3, .ref q_5, .int 0])), (q_3, .inl (cA_4, 2560, .inl (fun _ => 0))), (q_5, .inl (cA_6, 30, .inl (fun _ => 0)))] := hD
  have hK : va_K (dC, dI) vwCl [(cA_2, .int), (cA_4, .int), (cA_6, .int)] s := hK
  refine W.widen (k := 3) (n := 2596) (by omega) (by omega) ?_
  have hP9 := hP.sub (ws' := []) [] rfl
  have hD9 := hD.sub (ws' := []) [] (by decide) rfl
  have hK9 := hK.sub (tys' := []) [] rfl
  refine W.widen (k := 3) (n := 2596) (by omega) (by omega) ?_
  exact W.vret hx hb hr (fun t ht hW => ⟨⟨(), rfl, trivial, by rw [ht]; exact hP9, va_K.moved hW.alike hK9, hD9⟩, hS.F ht⟩) hS.2.2 dX2_init_47
set_option maxHeartbeats 1000000 in
set_option maxRecDepth 100000 in
/-- Proof(names, forms, look): no step -/
theorem c_Proof_init (l : Launch) (dC : Nat → ClassId) (dI : Nat → Nat → Nat) (sz : Nat) (h0 a_n a_f a_l : Nat) : Met l yX5_init wsX5_init ({ frames := 3, cells := 22, slots := 4413, locals := 55 }) (va_Pc [.ref h0, .ref a_n, .ref a_f, .ref a_l] (fun U => U.heap.size = sz ∧ va_P (dC, dI) vwCl [(h0, .inr (5, [.null, .null, .null, .null, .null, .null, .null, .null, .null, .null, .int 0, .int 0, .null, .int 0, .int 0, .long 0, .int 0]))] U.heap ∧ va_K (dC, dI) vwCl [] U ∧ va_D (fun _ => True) [(h0, .inr (5, [.null, .null, .null, .null, .null, .null, .null, .null, .null, .null, .int 0, .int 0, .null, .int 0, .int 0, .long 0, .int 0]))] ∧ va_AO RX6 U ∧ va_AO RX8 U ∧ va_AO RX10 U)) (va_Qv (fun _ : Unit => True) (fun _ t => ∃ (q_15 : Nat) (q_1 : Nat) (q_3 : Nat) (q_5 : Nat) (q_16 : Nat) (q_7 : Nat) (q_10 : Nat) (q_13 : Nat), va_P (dC, dI) vwCl [(h0, .inr (5, [.ref a_n, .ref a_f, .ref a_l, .ref q_15, .ref q_1, .ref q_3, .ref q_5, .ref q_16, .ref q_7, .ref q_10, .int 0, .int 0, .ref q_13, .int 0, .int 0, .long 0, .int 0]))] t.heap ∧ va_K (dC, dI) vwCl [] t ∧ va_D (va_A [(h0, .inr (5, [.null, .null, .null, .null, .null, .null, .null, .null, .null, .null, .int 0, .int 0, .null, .int 0, .int 0, .long 0, .int 0]))] sz) [(h0, .inr (5, [.ref a_n, .ref a_f, .ref a_l, .ref q_15, .ref q_1, .ref q_3, .ref q_5, .ref q_16, .ref q_7, .ref q_10, .int 0, .int 0, .ref q_13, .int 0, .int 0, .long 0, .int 0]))]) (va_A [(h0, .inr (5, [.null, .null, .null, .null, .null, .null, .null, .null, .null, .null, .int 0, .int 0, .null, .int 0, .int 0, .long 0, .int 0]))] sz)) (22) (4413) (va_A [(h0, .inr (5, [.null, .null, .null, .null, .null, .null, .null, .null, .null, .null, .int 0, .int 0, .null, .int 0, .int 0, .long 0, .int 0]))] sz) := by
  refine Met.ofW (cc := cX5_init) (maxL := 5) (ret := none) (by decide) rfl ?_
  intro p e s m args below meth c s₁ B hml hv
  obtain ⟨rfl, hsz, hP, hK, hD0, hao6, hao8, hao10⟩ := hv
  have hx := B.exec
  have hb := B.bytes
  have hr := B.returns
  have hts := atoms_spec (ws := wsX5_init) B.pre
  have hown : s.vm.findClass RX5 = some m.cls := findClass_of_methodNamed B.named
  have hlocks := B.notSynchronized
  have hin : meth.name = "<init>" := (name_of_methodNamed B.named B.method).1
  subst hsz
  have hD := hD0.self (sz := s.heap.size)
  generalize hAe : va_A [(h0, .inr (5, [.null, .null, .null, .null, .null, .null, .null, .null, .null, .null, .int 0, .int 0, .null, .int 0, .int 0, .long 0, .int 0]))] s.heap.size = A at hD ⊢
  have hA : ∀ q : Nat, s.heap.size ≤ q → A q := fun q h => by rw [← hAe]; exact Or.inr h
  have hS : va_S A s.heap s.heap [] := va_S.rf
  have hl := lv_entry ([.ref h0, .ref a_n, .ref a_f, .ref a_l]) (n := 5) (Nat.le_of_ble_eq_true rfl)
  rw [lg_entry_eq]
  generalize (lg_sl ([.ref h0, .ref a_n, .ref a_f, .ref a_l]) ++ List.replicate (5 - (lg_sl ([.ref h0, .ref a_n, .ref a_f, .ref a_l])).length) Slot.unset).toArray = ls at hl ⊢
  have hl : lv_has ls 5 [(0, .ref h0), (1, .ref a_n), (2, .ref a_f), (3, .ref a_l)] := hl
  refine lv_aload_n hx hb dX5_init_0 rfl (lv_at hl 0 rfl) ?_
  refine W.objInit hx hb hown (hts (.methodLink RX5 3 objectInit) (by decide +kernel)) (hts (.instanceMethod objectInit) (by decide +kernel)) (hts (.code objectInit ⟨#[0xb1]⟩ 1 none) (by decide +kernel)) rfl (by rw [hml]; exact hl.1) rfl dX5_init_1 (Nat.le_of_ble_eq_true rfl) (Nat.le_of_ble_eq_true rfl) ?_
  refine W.eq (g2 := F0 m 4 ls []) rfl ?_
  refine lv_aload_n hx hb dX5_init_4 rfl (lv_at hl 0 rfl) ?_
  refine lv_sipush (v := 300) hx hb dX5_init_5 (by decide) ?_
  refine va_newq (C := RX8) (n := 300) (N' := 300) hx hb hown (hts (.classLink RX5 9 RX8) (by decide +kernel)) hao8 hK hP hD hS hA (by decide) (by decide) (by decide) (show 0 + 1 ≤ 22 by omega) (show 0 + 300 ≤ 4413 by omega) dX5_init_8 (fun q_1 cA_2 H hK hP hD hS => ?_)
  have hP : va_P (dC, dI) vwCl [(h0, .inr (5, [.null, .null, .null, .null, .null, .null, .null, .null, .null, .null, .int 0, .int 0, .null, .int 0, .int 0, .long 0, .int 0])), (q_1, .inl (cA_2, 300, .inr (.inr (.inr (.inr (fun _ => none))))))] H := hP
  have hD : va_D A [(h0, .inr (5, [.null, .null, .null, .null, .null, .null, .null, .null, .null, .null, .int 0, .int 0, .null, .int 0, .int 0, .long 0, .int 0])), (q_1, .inl (cA_2, 300, .inr (.inr (.inr (.inr (fun _ => none))))))] := hD
  have hK : va_K (dC, dI) vwCl [(cA_2, .object RX8)] s := hK
  refine W.widen (k := 1) (n := 300) (by omega) (by omega) ?_
  refine va_putF (D := (dC, dI)) (ci := 5) (v := .ref q_1) (ty := .array (.object "ProofBench$Step")) (C := RX5) (T := TX5) (N := 17) hx hb hts (by decide +kernel) tyX5 tyX5_ok nmX5 hown hK hP hD hS 0 rfl rfl 4 (by decide) (hts (.fieldLink RX5 11 "ProofBench$Proof" "steps" "[LProofBench$Step;") (by decide +kernel)) (fun _ h9 => h9) rfl hin rfl (by decide +kernel) rfl rfl (Nat.le_of_ble_eq_true rfl) dX5_init_11 (fun H locs hP hD hS => ?_)
  have hP : va_P (dC, dI) vwCl [(h0, .inr (5, [.null, .null, .null, .null, .ref q_1, .null, .null, .null, .null, .null, .int 0, .int 0, .null, .int 0, .int 0, .long 0, .int 0])), (q_1, .inl (cA_2, 300, .inr (.inr (.inr (.inr (fun _ => none))))))] H := hP
  have hD : va_D A [(h0, .inr (5, [.null, .null, .null, .null, .ref q_1, .null, .null, .null, .null, .null, .int 0, .int 0, .null, .int 0, .int 0, .long 0, .int 0])), (q_1, .inl (cA_2, 300, .inr (.inr (.inr (.inr (fun _ => none))))))] := hD
  refine lv_aload_n hx hb dX5_init_14 rfl (lv_at hl 0 rfl) ?_
  refine lv_bipush (v := 40) hx hb dX5_init_15 (by decide) ?_
  refine va_newq (C := RX8) (n := 40) (N' := 40) hx hb hown (hts (.classLink RX5 9 RX8) (by decide +kernel)) hao8 hK hP hD hS hA (by decide) (by decide) (by decide) (show 1 + 1 ≤ 22 by omega) (show 300 + 40 ≤ 4413 by omega) dX5_init_17 (fun q_3 cA_4 H hK hP hD hS => ?_)
  have hP : va_P (dC, dI) vwCl [(h0, .inr (5, [.null, .null, .null, .null, .ref q_1, .null, .null, .null, .null, .null, .int 0, .int 0, .null, .int 0, .int 0, .long 0, .int 0])), (q_1, .inl (cA_2, 300, .inr (.inr (.inr (.inr (fun _ => none)))))), (q_3, .inl (cA_4, 40, .inr (.inr (.inr (.inr (fun _ => none))))))] H := hP
  have hD : va_D A [(h0, .inr (5, [.null, .null, .null, .null, .ref q_1, .null, .null, .null, .null, .null, .int 0, .int 0, .null, .int 0, .int 0, .long 0, .int 0])), (q_1, .inl (cA_2, 300, .inr (.inr (.inr (.inr (fun _ => none)))))), (q_3, .inl (cA_4, 40, .inr (.inr (.inr (.inr (fun _ => none))))))] := hD
  have hK : va_K (dC, dI) vwCl [(cA_2, .object RX8), (cA_4, .object RX8)] s := hK
  refine W.widen (k := 2) (n := 340) (by omega) (by omega) ?_
  refine va_putF (D := (dC, dI)) (ci := 5) (v := .ref q_3) (ty := .array (.object "ProofBench$Step")) (C := RX5) (T := TX5) (N := 17) hx hb hts (by decide +kernel) tyX5 tyX5_ok nmX5 hown hK hP hD hS 0 rfl rfl 5 (by decide) (hts (.fieldLink RX5 17 "ProofBench$Proof" "facts" "[LProofBench$Step;") (by decide +kernel)) (fun _ h9 => h9) rfl hin rfl (by decide +kernel) rfl rfl (Nat.le_of_ble_eq_true rfl) dX5_init_20 (fun H locs hP hD hS => ?_)
  have hP : va_P (dC, dI) vwCl [(h0, .inr (5, [.null, .null, .null, .null, .ref q_1, .ref q_3, .null, .null, .null, .null, .int 0, .int 0, .null, .int 0, .int 0, .long 0, .int 0])), (q_1, .inl (cA_2, 300, .inr (.inr (.inr (.inr (fun _ => none)))))), (q_3, .inl (cA_4, 40, .inr (.inr (.inr (.inr (fun _ => none))))))] H := hP
  have hD : va_D A [(h0, .inr (5, [.null, .null, .null, .null, .ref q_1, .ref q_3, .null, .null, .null, .null, .int 0, .int 0, .null, .int 0, .int 0, .long 0, .int 0])), (q_1, .inl (cA_2, 300, .inr (.inr (.inr (.inr (fun _ => none)))))), (q_3, .inl (cA_4, 40, .inr (.inr (.inr (.inr (fun _ => none))))))] := hD
  refine lv_aload_n hx hb dX5_init_23 rfl (lv_at hl 0 rfl) ?_
  refine lv_iconst (v := 4) hx hb dX5_init_24 (by decide) ?_
  refine va_newq (C := RX8) (n := 4) (N' := 4) hx hb hown (hts (.classLink RX5 9 RX8) (by decide +kernel)) hao8 hK hP hD hS hA (by decide) (by decide) (by decide) (show 2 + 1 ≤ 22 by omega) (show 340 + 4 ≤ 4413 by omega) dX5_init_25 (fun q_5 cA_6 H hK hP hD hS => ?_)
  have hP : va_P (dC, dI) vwCl [(h0, .inr (5, [.null, .null, .null, .null, .ref q_1, .ref q_3, .null, .null, .null, .null, .int 0, .int 0, .null, .int 0, .int 0, .long 0, .int 0])), (q_1, .inl (cA_2, 300, .inr (.inr (.inr (.inr (fun _ => none)))))), (q_3, .inl (cA_4, 40, .inr (.inr (.inr (.inr (fun _ => none)))))), (q_5, .inl (cA_6, 4, .inr (.inr (.inr (.inr (fun _ => none))))))] H := hP
  have hD : va_D A [(h0, .inr (5, [.null, .null, .null, .null, .ref q_1, .ref q_3, .null, .null, .null, .null, .int 0, .int 0, .null, .int 0, .int 0, .long 0, .int 0])), (q_1, .inl (cA_2, 300, .inr (.inr (.inr (.inr (fun _ => none)))))), (q_3, .inl (cA_4, 40, .inr (.inr (.inr (.inr (fun _ => none)))))), (q_5, .inl (cA_6, 4, .inr (.inr (.inr (.inr (fun _ => none))))))] := hD
  have hK : va_K (dC, dI) vwCl [(cA_2, .object RX8), (cA_4, .object RX8), (cA_6, .object RX8)] s := hK
  refine W.widen (k := 3) (n := 344) (by omega) (by omega) ?_
  refine va_putF (D := (dC, dI)) (ci := 5) (v := .ref q_5) (ty := .array (.object "ProofBench$Step")) (C := RX5) (T := TX5) (N := 17) hx hb hts (by decide +kernel) tyX5 tyX5_ok nmX5 hown hK hP hD hS 0 rfl rfl 6 (by decide) (hts (.fieldLink RX5 22 "ProofBench$Proof" "named" "[LProofBench$Step;") (by decide +kernel)) (fun _ h9 => h9) rfl hin rfl (by decide +kernel) rfl rfl (Nat.le_of_ble_eq_true rfl) dX5_init_28 (fun H locs hP hD hS => ?_)
  have hP : va_P (dC, dI) vwCl [(h0, .inr (5, [.null, .null, .null, .null, .ref q_1, .ref q_3, .ref q_5, .null, .null, .null, .int 0, .int 0, .null, .int 0, .int 0, .long 0, .int 0])), (q_1, .inl (cA_2, 300, .inr (.inr (.inr (.inr (fun _ => none)))))), (q_3, .inl (cA_4, 40, .inr (.inr (.inr (.inr (fun _ => none)))))), (q_5, .inl (cA_6, 4, .inr (.inr (.inr (.inr (fun _ => none))))))] H := hP
  have hD : va_D A [(h0, .inr (5, [.null, .null, .null, .null, .ref q_1, .ref q_3, .ref q_5, .null, .null, .null, .int 0, .int 0, .null, .int 0, .int 0, .long 0, .int 0])), (q_1, .inl (cA_2, 300, .inr (.inr (.inr (.inr (fun _ => none)))))), (q_3, .inl (cA_4, 40, .inr (.inr (.inr (.inr (fun _ => none)))))), (q_5, .inl (cA_6, 4, .inr (.inr (.inr (.inr (fun _ => none))))))] := hD
  refine lv_aload_n hx hb dX5_init_31 rfl (lv_at hl 0 rfl) ?_
  refine va_new (ci := 6) (fs := [.null, .int 0]) (C := RX6) (T := TX6) (N := 2) hx hb hts (by decide +kernel) tyX6 tyX6_ok hown (hts (.classLink RX5 25 RX6) (by decide +kernel)) (hts (.instantiable RX6 2) (by decide +kernel)) (hts (.initialized RX6) (by decide +kernel)) hK hP hD hS hA rfl (fun j hj => by rcases (show j = 0 ∨ j = 1 by omega) with rfl | rfl <;> rfl) (show 3 + 1 ≤ 22 by omega) (show 344 + 2 ≤ 4413 by omega) dX5_init_32 (fun q_7 H hP hD hS => ?_)
  have hP : va_P (dC, dI) vwCl [(h0, .inr (5, [.null, .null, .null, .null, .ref q_1, .ref q_3, .ref q_5, .null, .null, .null, .int 0, .int 0, .null, .int 0, .int 0, .long 0, .int 0])), (q_1, .inl (cA_2, 300, .inr (.inr (.inr (.inr (fun _ => none)))))), (q_3, .inl (cA_4, 40, .inr (.inr (.inr (.inr (fun _ => none)))))), (q_5, .inl (cA_6, 4, .inr (.inr (.inr (.inr (fun _ => none)))))), (q_7, .inr (6, [.null, .int 0]))] H := hP
  have hD : va_D A [(h0, .inr (5, [.null, .null, .null, .null, .ref q_1, .ref q_3, .ref q_5, .null, .null, .null, .int 0, .int 0, .null, .int 0, .int 0, .long 0, .int 0])), (q_1, .inl (cA_2, 300, .inr (.inr (.inr (.inr (fun _ => none)))))), (q_3, .inl (cA_4, 40, .inr (.inr (.inr (.inr (fun _ => none)))))), (q_5, .inl (cA_6, 4, .inr (.inr (.inr (.inr (fun _ => none)))))), (q_7, .inr (6, [.null, .int 0]))] := hD
  refine W.widen (k := 4) (n := 346) (by omega) (by omega) ?_
  refine lv_dup hx hb dX5_init_35 rfl ?_
  refine lv_sipush (v := 1210) hx hb dX5_init_36 (by decide) ?_
  have hPc := hP.sub (ws' := [(q_7, .inr (6, [.null, .int 0]))]) [4] rfl
  have hDc := hD.sub (ws' := [(q_7, .inr (6, [.null, .int 0]))]) [4] (by decide) rfl
  have hKc := hK.sub (tys' := []) [] rfl
  have hFc := va_free (wc := [(q_7, .inr (6, [.null, .int 0]))]) hD hS hA [4] rfl
  refine va_callv (va_runI (As := [.int 1210]) (rest := [.ref q_7, .ref h0]) ⟨hx, hb, hml, hown, hts⟩ (c_Row_init l dC dI H.size q_7 1210 1210 (by decide) (by decide) (by decide)) (cwI 1 hts gX5_init_X6_init rfl rfl rfl (hts (.initialized RX6) (by decide +kernel)) (hts (.methodLink RX5 27 yX6_init) (by decide +kernel)) (hts (.instanceMethod yX6_init) (by decide +kernel)) rfl (by decide +kernel) ⟨Nat.le_of_ble_eq_true rfl, Nat.le_of_ble_eq_true rfl⟩) ⟨fun a U g mk q => by obtain ⟨q0, q1, qP, qK, qD⟩ := q; exact ⟨q0, q1, qP, va_K.moved (u := U) (U := U.calling g mk a) (Vm.Alike.refl U.vm) qK, qD⟩, fun U hU hW => ⟨rfl, by rw [hU], by rw [hU]; exact hPc, va_K.moved hW.alike hKc, hDc.weaken (fun _ _ _ _ => trivial)⟩⟩ rfl rfl hl.1 rfl (lv_room (Nat.le_of_ble_eq_true rfl)) dX5_init_39 ⟨(show 4 + 1 ≤ 22 by omega), (show 346 + 1210 ≤ 4413 by omega)⟩) hS (fun q _ h => hFc q h) hFc (fun u t H1 locs ht hvm hw hB hz1 hk1 hS => ?_)
  obtain ⟨q_8, cA_9, hP1, hK1, hD1⟩ := hB
  rw [ht] at hP1
  have hK1 := va_K.moved hvm.symm hK1
  obtain ⟨hP, hD⟩ := va_join (wr := [(h0, .inr (5, [.null, .null, .null, .null, .ref q_1, .ref q_3, .ref q_5, .null, .null, .null, .int 0, .int 0, .null, .int 0, .int 0, .long 0, .int 0])), (q_1, .inl (cA_2, 300, .inr (.inr (.inr (.inr (fun _ => none)))))), (q_3, .inl (cA_4, 40, .inr (.inr (.inr (.inr (fun _ => none)))))), (q_5, .inl (cA_6, 4, .inr (.inr (.inr (.inr (fun _ => none))))))]) (w1 := [(q_7, .inr (6, [.ref q_8, .int 0])), (q_8, .inl (cA_9, 1210, .inl (fun _ => 0)))]) hP hD [4] [0, 1, 2, 3] rfl rfl (by decide) (by decide) hk1 hFc hP1 hD1
  have hK := (hK.sub (tys' := [(cA_2, .object RX8), (cA_4, .object RX8), (cA_6, .object RX8)]) [0, 1, 2] rfl).app hK1
  generalize H1 = H at hP hS ⊢
  have hP : va_P (dC, dI) vwCl [(h0, .inr (5, [.null, .null, .null, .null, .ref q_1, .ref q_3, .ref q_5, .null, .null, .null, .int 0, .int 0, .null, .int 0, .int 0, .long 0, .int 0])), (q_1, .inl (cA_2, 300, .inr (.inr (.inr (.inr (fun _ => none)))))), (q_3, .inl (cA_4, 40, .inr (.inr (.inr (.inr (fun _ => none)))))), (q_5, .inl (cA_6, 4, .inr (.inr (.inr (.inr (fun _ => none)))))), (q_7, .inr (6, [.ref q_8, .int 0])), (q_8, .inl (cA_9, 1210, .inl (fun _ => 0)))] H := hP
  have hD : va_D A [(h0, .inr (5, [.null, .null, .null, .null, .ref q_1, .ref q_3, .ref q_5, .null, .null, .null, .int 0, .int 0, .null, .int 0, .int 0, .long 0, .int 0])), (q_1, .inl (cA_2, 300, .inr (.inr (.inr (.inr (fun _ => none)))))), (q_3, .inl (cA_4, 40, .inr (.inr (.inr (.inr (fun _ => none)))))), (q_5, .inl (cA_6, 4, .inr (.inr (.inr (.inr (fun _ => none)))))), (q_7, .inr (6, [.ref q_8, .int 0])), (q_8, .inl (cA_9, 1210, .inl (fun _ => 0)))] := hD
  have hK : va_K (dC, dI) vwCl [(cA_2, .object RX8), (cA_4, .object RX8), (cA_6, .object RX8), (cA_9, .int)] s := hK
  refine W.widen (k := 5) (n := 1556) (by omega) (by omega) ?_
  refine va_putF (D := (dC, dI)) (ci := 5) (v := .ref q_7) (ty := .object "ProofBench$Row") (C := RX5) (T := TX5) (N := 17) hx hb hts (by decide +kernel) tyX5 tyX5_ok nmX5 hown hK hP hD hS 0 rfl rfl 8 (by decide) (hts (.fieldLink RX5 30 "ProofBench$Proof" "made" "LProofBench$Row;") (by decide +kernel)) (fun _ h9 => h9) rfl hin rfl (by decide +kernel) rfl rfl (Nat.le_of_ble_eq_true rfl) dX5_init_42 (fun H locs hP hD hS => ?_)
  have hP : va_P (dC, dI) vwCl [(h0, .inr (5, [.null, .null, .null, .null, .ref q_1, .ref q_3, .ref q_5, .null, .ref q_7, .null, .int 0, .int 0, .null, .int 0, .int 0, .long 0, .int 0])), (q_1, .inl (cA_2, 300, .inr (.inr (.inr (.inr (fun _ => none)))))), (q_3, .inl (cA_4, 40, .inr (.inr (.inr (.inr (fun _ => none)))))), (q_5, .inl (cA_6, 4, .inr (.inr (.inr (.inr (fun _ => none)))))), (q_7, .inr (6, [.ref q_8, .int 0])), (q_8, .inl (cA_9, 1210, .inl (fun _ => 0)))] H := hP
  have hD : va_D A [(h0, .inr (5, [.null, .null, .null, .null, .ref q_1, .ref q_3, .ref q_5, .null, .ref q_7, .null, .int 0, .int 0, .null, .int 0, .int 0, .long 0, .int 0])), (q_1, .inl (cA_2, 300, .inr (.inr (.inr (.inr (fun _ => none)))))), (q_3, .inl (cA_4, 40, .inr (.inr (.inr (.inr (fun _ => none)))))), (q_5, .inl (cA_6, 4, .inr (.inr (.inr (.inr (fun _ => none)))))), (q_7, .inr (6, [.ref q_8, .int 0])), (q_8, .inl (cA_9, 1210, .inl (fun _ => 0)))] := hD
  refine lv_aload_n hx hb dX5_init_45 rfl (lv_at hl 0 rfl) ?_
  refine va_new (ci := 6) (fs := [.null, .int 0]) (C := RX6) (T := TX6) (N := 2) hx hb hts (by decide +kernel) tyX6 tyX6_ok hown (hts (.classLink RX5 25 RX6) (by decide +kernel)) (hts (.instantiable RX6 2) (by decide +kernel)) (hts (.initialized RX6) (by decide +kernel)) hK hP hD hS hA rfl (fun j hj => by rcases (show j = 0 ∨ j = 1 by omega) with rfl | rfl <;> rfl) (show 5 + 1 ≤ 22 by omega) (show 1556 + 2 ≤ 4413 by omega) dX5_init_46 (fun q_10 H hP hD hS => ?_)
  have hP : va_P (dC, dI) vwCl [(h0, .inr (5, [.null, .null, .null, .null, .ref q_1, .ref q_3, .ref q_5, .null, .ref q_7, .null, .int 0, .int 0, .null, .int 0, .int 0, .long 0, .int 0])), (q_1, .inl (cA_2, 300, .inr (.inr (.inr (.inr (fun _ => none)))))), (q_3, .inl (cA_4, 40, .inr (.inr (.inr (.inr (fun _ => none)))))), (q_5, .inl (cA_6, 4, .inr (.inr (.inr (.inr (fun _ => none)))))), (q_7, .inr (6, [.ref q_8, .int 0])), (q_8, .inl (cA_9, 1210, .inl (fun _ => 0))), (q_10, .inr (6, [.null, .int 0]))] H := hP
  have hD : va_D A [(h0, .inr (5, [.null, .null, .null, .null, .ref q_1, .ref q_3, .ref q_5, .null, .ref q_7, .null, .int 0, .int 0, .null, .int 0, .int 0, .long 0, .int 0])), (q_1, .inl (cA_2, 300, .inr (.inr (.inr (.inr (fun _ => none)))))), (q_3, .inl (cA_4, 40, .inr (.inr (.inr (.inr (fun _ => none)))))), (q_5, .inl (cA_6, 4, .inr (.inr (.inr (.inr (fun _ => none)))))), (q_7, .inr (6, [.ref q_8, .int 0])), (q_8, .inl (cA_9, 1210, .inl (fun _ => 0))), (q_10, .inr (6, [.null, .int 0]))] := hD
  refine W.widen (k := 6) (n := 1558) (by omega) (by omega) ?_
  refine lv_dup hx hb dX5_init_49 rfl ?_
  refine lv_sipush (v := 1210) hx hb dX5_init_50 (by decide) ?_
  have hPc := hP.sub (ws' := [(q_10, .inr (6, [.null, .int 0]))]) [6] rfl
  have hDc := hD.sub (ws' := [(q_10, .inr (6, [.null, .int 0]))]) [6] (by decide) rfl
  have hKc := hK.sub (tys' := []) [] rfl
  have hFc := va_free (wc := [(q_10, .inr (6, [.null, .int 0]))]) hD hS hA [6] rfl
  refine va_callv (va_runI (As := [.int 1210]) (rest := [.ref q_10, .ref h0]) ⟨hx, hb, hml, hown, hts⟩ (c_Row_init l dC dI H.size q_10 1210 1210 (by decide) (by decide) (by decide)) (cwI 1 hts gX5_init_X6_init rfl rfl rfl (hts (.initialized RX6) (by decide +kernel)) (hts (.methodLink RX5 27 yX6_init) (by decide +kernel)) (hts (.instanceMethod yX6_init) (by decide +kernel)) rfl (by decide +kernel) ⟨Nat.le_of_ble_eq_true rfl, Nat.le_of_ble_eq_true rfl⟩) ⟨fun a U g mk q => by obtain ⟨q0, q1, qP, qK, qD⟩ := q; exact ⟨q0, q1, qP, va_K.moved (u := U) (U := U.calling g mk a) (Vm.Alike.refl U.vm) qK, qD⟩, fun U hU hW => ⟨rfl, by rw [hU], by rw [hU]; exact hPc, va_K.moved hW.alike hKc, hDc.weaken (fun _ _ _ _ => trivial)⟩⟩ rfl rfl hl.1 rfl (lv_room (Nat.le_of_ble_eq_true rfl)) dX5_init_53 ⟨(show 6 + 1 ≤ 22 by omega), (show 1558 + 1210 ≤ 4413 by omega)⟩) hS (fun q _ h => hFc q h) hFc (fun u t H1 locs ht hvm hw hB hz1 hk1 hS => ?_)
  obtain ⟨q_11, cA_12, hP1, hK1, hD1⟩ := hB
  rw [ht] at hP1
  have hK1 := va_K.moved hvm.symm hK1
  obtain ⟨hP, hD⟩ := va_join (wr := [(h0, .inr (5, [.null, .null, .null, .null, .ref q_1, .ref q_3, .ref q_5, .null, .ref q_7, .null, .int 0, .int 0, .null, .int 0, .int 0, .long 0, .int 0])), (q_1, .inl (cA_2, 300, .inr (.inr (.inr (.inr (fun _ => none)))))), (q_3, .inl (cA_4, 40, .inr (.inr (.inr (.inr (fun _ => none)))))), (q_5, .inl (cA_6, 4, .inr (.inr (.inr (.inr (fun _ => none)))))), (q_7, .inr (6, [.ref q_8, .int 0])), (q_8, .inl (cA_9, 1210, .inl (fun _ => 0)))]) (w1 := [(q_10, .inr (6, [.ref q_11, .int 0])), (q_11, .inl (cA_12, 1210, .inl (fun _ => 0)))]) hP hD [6] [0, 1, 2, 3, 4, 5] rfl rfl (by decide) (by decide) hk1 hFc hP1 hD1
  have hK := (hK.sub (tys' := [(cA_2, .object RX8), (cA_4, .object RX8), (cA_6, .object RX8), (cA_9, .int)]) [0, 1, 2, 3] rfl).app hK1
  generalize H1 = H at hP hS ⊢
  have hP : va_P (dC, dI) vwCl [(h0, .inr (5, [.null, .null, .null, .null, .ref q_1, .ref q_3, .ref q_5, .null, .ref q_7, .null, .int 0, .int 0, .null, .int 0, .int 0, .long 0, .int 0])), (q_1, .inl (cA_2, 300, .inr (.inr (.inr (.inr (fun _ => none)))))), (q_3, .inl (cA_4, 40, .inr (.inr (.inr (.inr (fun _ => none)))))), (q_5, .inl (cA_6, 4, .inr (.inr (.inr (.inr (fun _ => none)))))), (q_7, .inr (6, [.ref q_8, .int 0])), (q_8, .inl (cA_9, 1210, .inl (fun _ => 0))), (q_10, .inr (6, [.ref q_11, .int 0])), (q_11, .inl (cA_12, 1210, .inl (fun _ => 0)))] H := hP
  have hD : va_D A [(h0, .inr (5, [.null, .null, .null, .null, .ref q_1, .ref q_3, .ref q_5, .null, .ref q_7, .null, .int 0, .int 0, .null, .int 0, .int 0, .long 0, .int 0])), (q_1, .inl (cA_2, 300, .inr (.inr (.inr (.inr (fun _ => none)))))), (q_3, .inl (cA_4, 40, .inr (.inr (.inr (.inr (fun _ => none)))))), (q_5, .inl (cA_6, 4, .inr (.inr (.inr (.inr (fun _ => none)))))), (q_7, .inr (6, [.ref q_8, .int 0])), (q_8, .inl (cA_9, 1210, .inl (fun _ => 0))), (q_10, .inr (6, [.ref q_11, .int 0])), (q_11, .inl (cA_12, 1210, .inl (fun _ => 0)))] := hD
  have hK : va_K (dC, dI) vwCl [(cA_2, .object RX8), (cA_4, .object RX8), (cA_6, .object RX8), (cA_9, .int), (cA_12, .int)] s := hK
  refine W.widen (k := 7) (n := 2768) (by omega) (by omega) ?_
  refine va_putF (D := (dC, dI)) (ci := 5) (v := .ref q_10) (ty := .object "ProofBench$Row") (C := RX5) (T := TX5) (N := 17) hx hb hts (by decide +kernel) tyX5 tyX5_ok nmX5 hown hK hP hD hS 0 rfl rfl 9 (by decide) (hts (.fieldLink RX5 34 "ProofBench$Proof" "other" "LProofBench$Row;") (by decide +kernel)) (fun _ h9 => h9) rfl hin rfl (by decide +kernel) rfl rfl (Nat.le_of_ble_eq_true rfl) dX5_init_56 (fun H locs hP hD hS => ?_)
  have hP : va_P (dC, dI) vwCl [(h0, .inr (5, [.null, .null, .null, .null, .ref q_1, .ref q_3, .ref q_5, .null, .ref q_7, .ref q_10, .int 0, .int 0, .null, .int 0, .int 0, .long 0, .int 0])), (q_1, .inl (cA_2, 300, .inr (.inr (.inr (.inr (fun _ => none)))))), (q_3, .inl (cA_4, 40, .inr (.inr (.inr (.inr (fun _ => none)))))), (q_5, .inl (cA_6, 4, .inr (.inr (.inr (.inr (fun _ => none)))))), (q_7, .inr (6, [.ref q_8, .int 0])), (q_8, .inl (cA_9, 1210, .inl (fun _ => 0))), (q_10, .inr (6, [.ref q_11, .int 0])), (q_11, .inl (cA_12, 1210, .inl (fun _ => 0)))] H := hP
  have hD : va_D A [(h0, .inr (5, [.null, .null, .null, .null, .ref q_1, .ref q_3, .ref q_5, .null, .ref q_7, .ref q_10, .int 0, .int 0, .null, .int 0, .int 0, .long 0, .int 0])), (q_1, .inl (cA_2, 300, .inr (.inr (.inr (.inr (fun _ => none)))))), (q_3, .inl (cA_4, 40, .inr (.inr (.inr (.inr (fun _ => none)))))), (q_5, .inl (cA_6, 4, .inr (.inr (.inr (.inr (fun _ => none)))))), (q_7, .inr (6, [.ref q_8, .int 0])), (q_8, .inl (cA_9, 1210, .inl (fun _ => 0))), (q_10, .inr (6, [.ref q_11, .int 0])), (q_11, .inl (cA_12, 1210, .inl (fun _ => 0)))] := hD
  refine lv_aload_n hx hb dX5_init_59 rfl (lv_at hl 0 rfl) ?_
  refine lv_bipush (v := 20) hx hb dX5_init_60 (by decide) ?_
  refine va_newq (C := RX10) (n := 20) (N' := 20) hx hb hown (hts (.classLink RX5 37 RX10) (by decide +kernel)) hao10 hK hP hD hS hA (by decide) (by decide) (by decide) (show 7 + 1 ≤ 22 by omega) (show 2768 + 20 ≤ 4413 by omega) dX5_init_62 (fun q_13 cA_14 H hK hP hD hS => ?_)
  have hP : va_P (dC, dI) vwCl [(h0, .inr (5, [.null, .null, .null, .null, .ref q_1, .ref q_3, .ref q_5, .null, .ref q_7, .ref q_10, .int 0, .int 0, .null, .int 0, .int 0, .long 0, .int 0])), (q_1, .inl (cA_2, 300, .inr (.inr (.inr (.inr (fun _ => none)))))), (q_3, .inl (cA_4, 40, .inr (.inr (.inr (.inr (fun _ => none)))))), (q_5, .inl (cA_6, 4, .inr (.inr (.inr (.inr (fun _ => none)))))), (q_7, .inr (6, [.ref q_8, .int 0])), (q_8, .inl (cA_9, 1210, .inl (fun _ => 0))), (q_10, .inr (6, [.ref q_11, .int 0])), (q_11, .inl (cA_12, 1210, .inl (fun _ => 0))), (q_13, .inl (cA_14, 20, .inr (.inr (.inr (.inr (fun _ => none))))))] H := hP
  have hD : va_D A [(h0, .inr (5, [.null, .null, .null, .null, .ref q_1, .ref q_3, .ref q_5, .null, .ref q_7, .ref q_10, .int 0, .int 0, .null, .int 0, .int 0, .long 0, .int 0])), (q_1, .inl (cA_2, 300, .inr (.inr (.inr (.inr (fun _ => none)))))), (q_3, .inl (cA_4, 40, .inr (.inr (.inr (.inr (fun _ => none)))))), (q_5, .inl (cA_6, 4, .inr (.inr (.inr (.inr (fun _ => none)))))), (q_7, .inr (6, [.ref q_8, .int 0])), (q_8, .inl (cA_9, 1210, .inl (fun _ => 0))), (q_10, .inr (6, [.ref q_11, .int 0])), (q_11, .inl (cA_12, 1210, .inl (fun _ => 0))), (q_13, .inl (cA_14, 20, .inr (.inr (.inr (.inr (fun _ => none))))))] := hD
  have hK : va_K (dC, dI) vwCl [(cA_2, .object RX8), (cA_4, .object RX8), (cA_6, .object RX8), (cA_9, .int), (cA_12, .int), (cA_14, .object RX10)] s := hK
  refine W.widen (k := 8) (n := 2788) (by omega) (by omega) ?_
  refine va_putF (D := (dC, dI)) (ci := 5) (v := .ref q_13) (ty := .array (.object "ProofBench$Thing")) (C := RX5) (T := TX5) (N := 17) hx hb hts (by decide +kernel) tyX5 tyX5_ok nmX5 hown hK hP hD hS 0 rfl rfl 12 (by decide) (hts (.fieldLink RX5 39 "ProofBench$Proof" "kept" "[LProofBench$Thing;") (by decide +kernel)) (fun _ h9 => h9) rfl hin rfl (by decide +kernel) rfl rfl (Nat.le_of_ble_eq_true rfl) dX5_init_65 (fun H locs hP hD hS => ?_)
  have hP : va_P (dC, dI) vwCl [(h0, .inr (5, [.null, .null, .null, .null, .ref q_1, .ref q_3, .ref q_5, .null, .ref q_7, .ref q_10, .int 0, .int 0, .ref q_13, .int 0, .int 0, .long 0, .int 0])), (q_1, .inl (cA_2, 300, .inr (.inr (.inr (.inr (fun _ => none)))))), (q_3, .inl (cA_4, 40, .inr (.inr (.inr (.inr (fun _ => none)))))), (q_5, .inl (cA_6, 4, .inr (.inr (.inr (.inr (fun _ => none)))))), (q_7, .inr (6, [.ref q_8, .int 0])), (q_8, .inl (cA_9, 1210, .inl (fun _ => 0))), (q_10, .inr (6, [.ref q_11, .int 0])), (q_11, .inl (cA_12, 1210, .inl (fun _ => 0))), (q_13, .inl (cA_14, 20, .inr (.inr (.inr (.inr (fun _ => none))))))] H := hP
  have hD : va_D A [(h0, .inr (5, [.null, .null, .null, .null, .ref q_1, .ref q_3, .ref q_5, .null, .ref q_7, .ref q_10, .int 0, .int 0, .ref q_13, .int 0, .int 0, .long 0, .int 0])), (q_1, .inl (cA_2, 300, .inr (.inr (.inr (.inr (fun _ => none)))))), (q_3, .inl (cA_4, 40, .inr (.inr (.inr (.inr (fun _ => none)))))), (q_5, .inl (cA_6, 4, .inr (.inr (.inr (.inr (fun _ => none)))))), (q_7, .inr (6, [.ref q_8, .int 0])), (q_8, .inl (cA_9, 1210, .inl (fun _ => 0))), (q_10, .inr (6, [.ref q_11, .int 0])), (q_11, .inl (cA_12, 1210, .inl (fun _ => 0))), (q_13, .inl (cA_14, 20, .inr (.inr (.inr (.inr (fun _ => none))))))] := hD
  refine lv_aload_n hx hb dX5_init_68 rfl (lv_at hl 0 rfl) ?_
  refine lv_aload_n hx hb dX5_init_69 rfl (lv_at hl 1 rfl) ?_
  refine va_putF (D := (dC, dI)) (ci := 5) (v := .ref a_n) (ty := .object "ProofBench$Names") (C := RX5) (T := TX5) (N := 17) hx hb hts (by decide +kernel) tyX5 tyX5_ok nmX5 hown hK hP hD hS 0 rfl rfl 0 (by decide) (hts (.fieldLink RX5 43 "ProofBench$Proof" "names" "LProofBench$Names;") (by decide +kernel)) (fun _ h9 => h9) rfl hin rfl (by decide +kernel) rfl rfl (Nat.le_of_ble_eq_true rfl) dX5_init_70 (fun H locs hP hD hS => ?_)
  have hP : va_P (dC, dI) vwCl [(h0, .inr (5, [.ref a_n, .null, .null, .null, .ref q_1, .ref q_3, .ref q_5, .null, .ref q_7, .ref q_10, .int 0, .int 0, .ref q_13, .int 0, .int 0, .long 0, .int 0])), (q_1, .inl (cA_2, 300, .inr (.inr (.inr (.inr (fun _ => none)))))), (q_3, .inl (cA_4, 40, .inr (.inr (.inr (.inr (fun _ => none)))))), (q_5, .inl (cA_6, 4, .inr (.inr (.inr (.inr (fun _ => none)))))), (q_7, .inr (6, [.ref q_8, .int 0])), (q_8, .inl (cA_9, 1210, .inl (fun _ => 0))), (q_10, .inr (6, [.ref q_11, .int 0])), (q_11, .inl (cA_12, 1210, .inl (fun _ => 0))), (q_13, .inl (cA_14, 20, .inr (.inr (.inr (.inr (fun _ => none))))))] H := hP
  have hD : va_D A [(h0, .inr (5, [.ref a_n, .null, .null, .null, .ref q_1, .ref q_3, .ref q_5, .null, .ref q_7, .ref q_10, .int 0, .int 0, .ref q_13, .int 0, .int 0, .long 0, .int 0])), (q_1, .inl (cA_2, 300, .inr (.inr (.inr (.inr (fun _ => none)))))), (q_3, .inl (cA_4, 40, .inr (.inr (.inr (.inr (fun _ => none)))))), (q_5, .inl (cA_6, 4, .inr (.inr (.inr (.inr (fun _ => none)))))), (q_7, .inr (6, [.ref q_8, .int 0])), (q_8, .inl (cA_9, 1210, .inl (fun _ => 0))), (q_10, .inr (6, [.ref q_11, .int 0])), (q_11, .inl (cA_12, 1210, .inl (fun _ => 0))), (q_13, .inl (cA_14, 20, .inr (.inr (.inr (.inr (fun _ => none))))))] := hD
  refine lv_aload_n hx hb dX5_init_73 rfl (lv_at hl 0 rfl) ?_
  refine lv_aload_n hx hb dX5_init_74 rfl (lv_at hl 2 rfl) ?_
  refine va_putF (D := (dC, dI)) (ci := 5) (v := .ref a_f) (ty := .object "ProofBench$Forms") (C := RX5) (T := TX5) (N := 17) hx hb hts (by decide +kernel) tyX5 tyX5_ok nmX5 hown hK hP hD hS 0 rfl rfl 1 (by decide) (hts (.fieldLink RX5 47 "ProofBench$Proof" "forms" "LProofBench$Forms;") (by decide +kernel)) (fun _ h9 => h9) rfl hin rfl (by decide +kernel) rfl rfl (Nat.le_of_ble_eq_true rfl) dX5_init_75 (fun H locs hP hD hS => ?_)
  have hP : va_P (dC, dI) vwCl [(h0, .inr (5, [.ref a_n, .ref a_f, .null, .null, .ref q_1, .ref q_3, .ref q_5, .null, .ref q_7, .ref q_10, .int 0, .int 0, .ref q_13, .int 0, .int 0, .long 0, .int 0])), (q_1, .inl (cA_2, 300, .inr (.inr (.inr (.inr (fun _ => none)))))), (q_3, .inl (cA_4, 40, .inr (.inr (.inr (.inr (fun _ => none)))))), (q_5, .inl (cA_6, 4, .inr (.inr (.inr (.inr (fun _ => none)))))), (q_7, .inr (6, [.ref q_8, .int 0])), (q_8, .inl (cA_9, 1210, .inl (fun _ => 0))), (q_10, .inr (6, [.ref q_11, .int 0])), (q_11, .inl (cA_12, 1210, .inl (fun _ => 0))), (q_13, .inl (cA_14, 20, .inr (.inr (.inr (.inr (fun _ => none))))))] H := hP
  have hD : va_D A [(h0, .inr (5, [.ref a_n, .ref a_f, .null, .null, .ref q_1, .ref q_3, .ref q_5, .null, .ref q_7, .ref q_10, .int 0, .int 0, .ref q_13, .int 0, .int 0, .long 0, .int 0])), (q_1, .inl (cA_2, 300, .inr (.inr (.inr (.inr (fun _ => none)))))), (q_3, .inl (cA_4, 40, .inr (.inr (.inr (.inr (fun _ => none)))))), (q_5, .inl (cA_6, 4, .inr (.inr (.inr (.inr (fun _ => none)))))), (q_7, .inr (6, [.ref q_8, .int 0])), (q_8, .inl (cA_9, 1210, .inl (fun _ => 0))), (q_10, .inr (6, [.ref q_11, .int 0])), (q_11, .inl (cA_12, 1210, .inl (fun _ => 0))), (q_13, .inl (cA_14, 20, .inr (.inr (.inr (.inr (fun _ => none))))))] := hD
  refine lv_aload_n hx hb dX5_init_78 rfl (lv_at hl 0 rfl) ?_
  refine lv_aload_n hx hb dX5_init_79 rfl (lv_at hl 3 rfl) ?_
  refine va_putF (D := (dC, dI)) (ci := 5) (v := .ref a_l) (ty := .object "ProofBench$Look") (C := RX5) (T := TX5) (N := 17) hx hb hts (by decide +kernel) tyX5 tyX5_ok nmX5 hown hK hP hD hS 0 rfl rfl 2 (by decide) (hts (.fieldLink RX5 51 "ProofBench$Proof" "look" "LProofBench$Look;") (by decide +kernel)) (fun _ h9 => h9) rfl hin rfl (by decide +kernel) rfl rfl (Nat.le_of_ble_eq_true rfl) dX5_init_80 (fun H locs hP hD hS => ?_)
  have hP : va_P (dC, dI) vwCl [(h0, .inr (5, [.ref a_n, .ref a_f, .ref a_l, .null, .ref q_1, .ref q_3, .ref q_5, .null, .ref q_7, .ref q_10, .int 0, .int 0, .ref q_13, .int 0, .int 0, .long 0, .int 0])), (q_1, .inl (cA_2, 300, .inr (.inr (.inr (.inr (fun _ => none)))))), (q_3, .inl (cA_4, 40, .inr (.inr (.inr (.inr (fun _ => none)))))), (q_5, .inl (cA_6, 4, .inr (.inr (.inr (.inr (fun _ => none)))))), (q_7, .inr (6, [.ref q_8, .int 0])), (q_8, .inl (cA_9, 1210, .inl (fun _ => 0))), (q_10, .inr (6, [.ref q_11, .int 0])), (q_11, .inl (cA_12, 1210, .inl (fun _ => 0))), (q_13, .inl (cA_14, 20, .inr (.inr (.inr (.inr (fun _ => none))))))] H := hP
  have hD : va_D A [(h0, .inr (5, [.ref a_n, .ref a_f, .ref a_l, .null, .ref q_1, .ref q_3, .ref q_5, .null, .ref q_7, .ref q_10, .int 0, .int 0, .ref q_13, .int 0, .int 0, .long 0, .int 0])), (q_1, .inl (cA_2, 300, .inr (.inr (.inr (.inr (fun _ => none)))))), (q_3, .inl (cA_4, 40, .inr (.inr (.inr (.inr (fun _ => none)))))), (q_5, .inl (cA_6, 4, .inr (.inr (.inr (.inr (fun _ => none)))))), (q_7, .inr (6, [.ref q_8, .int 0])), (q_8, .inl (cA_9, 1210, .inl (fun _ => 0))), (q_10, .inr (6, [.ref q_11, .int 0])), (q_11, .inl (cA_12, 1210, .inl (fun _ => 0))), (q_13, .inl (cA_14, 20, .inr (.inr (.inr (.inr (fun _ => none))))))] := hD
  refine lv_aload_n hx hb dX5_init_83 rfl (lv_at hl 0 rfl) ?_
  refine va_new (ci := 7) (fs := [.null, .null, .int 0, .int 0, .int 0, .int 0]) (C := RX7) (T := TX7) (N := 6) hx hb hts (by decide +kernel) tyX7 tyX7_ok hown (hts (.classLink RX5 55 RX7) (by decide +kernel)) (hts (.instantiable RX7 6) (by decide +kernel)) (hts (.initialized RX7) (by decide +kernel)) hK hP hD hS hA rfl (fun j hj => by rcases (show j = 0 ∨ j = 1 ∨ j = 2 ∨ j = 3 ∨ j = 4 ∨ j = 5 by omega) with rfl | rfl | rfl | rfl | rfl | rfl <;> rfl) (show 8 + 1 ≤ 22 by omega) (show 2788 + 6 ≤ 4413 by omega) dX5_init_84 (fun q_15 H hP hD hS => ?_)
  have hP : va_P (dC, dI) vwCl [(h0, .inr (5, [.ref a_n, .ref a_f, .ref a_l, .null, .ref q_1, .ref q_3, .ref q_5, .null, .ref q_7, .ref q_10, .int 0, .int 0, .ref q_13, .int 0, .int 0, .long 0, .int 0])), (q_1, .inl (cA_2, 300, .inr (.inr (.inr (.inr (fun _ => none)))))), (q_3, .inl (cA_4, 40, .inr (.inr (.inr (.inr (fun _ => none)))))), (q_5, .inl (cA_6, 4, .inr (.inr (.inr (.inr (fun _ => none)))))), (q_7, .inr (6, [.ref q_8, .int 0])), (q_8, .inl (cA_9, 1210, .inl (fun _ => 0))), (q_10, .inr (6, [.ref q_11, .int 0])), (q_11, .inl (cA_12, 1210, .inl (fun _ => 0))), (q_13, .inl (cA_14, 20, .inr (.inr (.inr (.inr (fun _ => none)))))), (q_15, .inr (7, [.null, .null, .int 0, .int 0, .int 0, .int 0]))] H := hP
  have hD : va_D A [(h0, .inr (5, [.ref a_n, .ref a_f, .ref a_l, .null, .ref q_1, .ref q_3, .ref q_5, .null, .ref q_7, .ref q_10, .int 0, .int 0, .ref q_13, .int 0, .int 0, .long 0, .int 0])), (q_1, .inl (cA_2, 300, .inr (.inr (.inr (.inr (fun _ => none)))))), (q_3, .inl (cA_4, 40, .inr (.inr (.inr (.inr (fun _ => none)))))), (q_5, .inl (cA_6, 4, .inr (.inr (.inr (.inr (fun _ => none)))))), (q_7, .inr (6, [.ref q_8, .int 0])), (q_8, .inl (cA_9, 1210, .inl (fun _ => 0))), (q_10, .inr (6, [.ref q_11, .int 0])), (q_11, .inl (cA_12, 1210, .inl (fun _ => 0))), (q_13, .inl (cA_14, 20, .inr (.inr (.inr (.inr (fun _ => none)))))), (q_15, .inr (7, [.null, .null, .int 0, .int 0, .int 0, .int 0]))] := hD
  refine W.widen (k := 9) (n := 2794) (by omega) (by omega) ?_
  refine lv_dup hx hb dX5_init_87 rfl ?_
  refine lv_aload_n hx hb dX5_init_88 rfl (lv_at hl 2 rfl) ?_
  have hPc := hP.sub (ws' := [(q_15, .inr (7, [.null, .null, .int 0, .int 0, .int 0, .int 0]))]) [9] rfl
  have hDc := hD.sub (ws' := [(q_15, .inr (7, [.null, .null, .int 0, .int 0, .int 0, .int 0]))]) [9] (by decide) rfl
  have hKc := hK.sub (tys' := []) [] rfl
  have hFc := va_free (wc := [(q_15, .inr (7, [.null, .null, .int 0, .int 0, .int 0, .int 0]))]) hD hS hA [9] rfl
  refine va_callv (va_runI (As := [.ref a_f]) (rest := [.ref q_15, .ref h0]) ⟨hx, hb, hml, hown, hts⟩ (c_Search_init l dC dI H.size q_15 a_f) (cwI 1 hts gX5_init_X7_init rfl rfl rfl (hts (.initialized RX7) (by decide +kernel)) (hts (.methodLink RX5 57 yX7_init) (by decide +kernel)) (hts (.instanceMethod yX7_init) (by decide +kernel)) rfl (by decide +kernel) ⟨Nat.le_of_ble_eq_true rfl, Nat.le_of_ble_eq_true rfl⟩) ⟨fun a U g mk q => by obtain ⟨q0, q1, qP, qK, qD, qE0⟩ := q; exact ⟨q0, q1, qP, va_K.moved (u := U) (U := U.calling g mk a) (Vm.Alike.refl U.vm) qK, qD, va_AO.moved (u := U) (U := U.calling g mk a) (Vm.Alike.refl U.vm) qE0⟩, fun U hU hW => ⟨rfl, by rw [hU], by rw [hU]; exact hPc, va_K.moved hW.alike hKc, hDc.weaken (fun _ _ _ _ => trivial), va_AO.moved hW.alike hao6⟩⟩ rfl rfl hl.1 rfl (lv_room (Nat.le_of_ble_eq_true rfl)) dX5_init_89 ⟨(show 9 + 9 ≤ 22 by omega), (show 2794 + 1612 ≤ 4413 by omega)⟩) hS (fun q _ h => hFc q h) hFc (fun u t H1 locs ht hvm hw hB hz1 hk1 hS => ?_)
  obtain ⟨hP1, hK1, hD1⟩ := hB
  rw [ht] at hP1
  have hK1 := va_K.moved hvm.symm hK1
  obtain ⟨hP, hD⟩ := va_join (wr := [(h0, .inr (5, [.ref a_n, .ref a_f, .ref a_l, .null, .ref q_1, .ref q_3, .ref q_5, .null, .ref q_7, .ref q_10, .int 0, .int 0, .ref q_13, .int 0, .int 0, .long 0, .int 0])), (q_1, .inl (cA_2, 300, .inr (.inr (.inr (.inr (fun _ => none)))))), (q_3, .inl (cA_4, 40, .inr (.inr (.inr (.inr (fun _ => none)))))), (q_5, .inl (cA_6, 4, .inr (.inr (.inr (.inr (fun _ => none)))))), (q_7, .inr (6, [.ref q_8, .int 0])), (q_8, .inl (cA_9, 1210, .inl (fun _ => 0))), (q_10, .inr (6, [.ref q_11, .int 0])), (q_11, .inl (cA_12, 1210, .inl (fun _ => 0))), (q_13, .inl (cA_14, 20, .inr (.inr (.inr (.inr (fun _ => none))))))]) (w1 := []) hP hD [9] [0, 1, 2, 3, 4, 5, 6, 7, 8] rfl rfl (by decide) (by decide) hk1 hFc hP1 hD1
  have hK := (hK.sub (tys' := [(cA_2, .object RX8), (cA_4, .object RX8), (cA_6, .object RX8), (cA_9, .int), (cA_12, .int), (cA_14, .object RX10)]) [0, 1, 2, 3, 4, 5] rfl).app hK1
  generalize H1 = H at hP hS ⊢
  have hP : va_P (dC, dI) vwCl [(h0, .inr (5, [.ref a_n, .ref a_f, .ref a_l, .null, .ref q_1, .ref q_3, .ref q_5, .null, .ref q_7, .ref q_10, .int 0, .int 0, .ref q_13, .int 0, .int 0, .long 0, .int 0])), (q_1, .inl (cA_2, 300, .inr (.inr (.inr (.inr (fun _ => none)))))), (q_3, .inl (cA_4, 40, .inr (.inr (.inr (.inr (fun _ => none)))))), (q_5, .inl (cA_6, 4, .inr (.inr (.inr (.inr (fun _ => none)))))), (q_7, .inr (6, [.ref q_8, .int 0])), (q_8, .inl (cA_9, 1210, .inl (fun _ => 0))), (q_10, .inr (6, [.ref q_11, .int 0])), (q_11, .inl (cA_12, 1210, .inl (fun _ => 0))), (q_13, .inl (cA_14, 20, .inr (.inr (.inr (.inr (fun _ => none))))))] H := hP
  have hD : va_D A [(h0, .inr (5, [.ref a_n, .ref a_f, .ref a_l, .null, .ref q_1, .ref q_3, .ref q_5, .null, .ref q_7, .ref q_10, .int 0, .int 0, .ref q_13, .int 0, .int 0, .long 0, .int 0])), (q_1, .inl (cA_2, 300, .inr (.inr (.inr (.inr (fun _ => none)))))), (q_3, .inl (cA_4, 40, .inr (.inr (.inr (.inr (fun _ => none)))))), (q_5, .inl (cA_6, 4, .inr (.inr (.inr (.inr (fun _ => none)))))), (q_7, .inr (6, [.ref q_8, .int 0])), (q_8, .inl (cA_9, 1210, .inl (fun _ => 0))), (q_10, .inr (6, [.ref q_11, .int 0])), (q_11, .inl (cA_12, 1210, .inl (fun _ => 0))), (q_13, .inl (cA_14, 20, .inr (.inr (.inr (.inr (fun _ => none))))))] := hD
  have hK : va_K (dC, dI) vwCl [(cA_2, .object RX8), (cA_4, .object RX8), (cA_6, .object RX8), (cA_9, .int), (cA_12, .int), (cA_14, .object RX10)] s := hK
  refine W.widen (k := 18) (n := 4406) (by omega) (by omega) ?_
  refine va_putF (D := (dC, dI)) (ci := 5) (v := .ref q_15) (ty := .object "ProofBench$Search") (C := RX5) (T := TX5) (N := 17) hx hb hts (by decide +kernel) tyX5 tyX5_ok nmX5 hown hK hP hD hS 0 rfl rfl 3 (by decide) (hts (.fieldLink RX5 60 "ProofBench$Proof" "search" "LProofBench$Search;") (by decide +kernel)) (fun _ h9 => h9) rfl hin rfl (by decide +kernel) rfl rfl (Nat.le_of_ble_eq_true rfl) dX5_init_92 (fun H locs hP hD hS => ?_)
  have hP : va_P (dC, dI) vwCl [(h0, .inr (5, [.ref a_n, .ref a_f, .ref a_l, .ref q_15, .ref q_1, .ref q_3, .ref q_5, .null, .ref q_7, .ref q_10, .int 0, .int 0, .ref q_13, .int 0, .int 0, .long 0, .int 0])), (q_1, .inl (cA_2, 300, .inr (.inr (.inr (.inr (fun _ => none)))))), (q_3, .inl (cA_4, 40, .inr (.inr (.inr (.inr (fun _ => none)))))), (q_5, .inl (cA_6, 4, .inr (.inr (.inr (.inr (fun _ => none)))))), (q_7, .inr (6, [.ref q_8, .int 0])), (q_8, .inl (cA_9, 1210, .inl (fun _ => 0))), (q_10, .inr (6, [.ref q_11, .int 0])), (q_11, .inl (cA_12, 1210, .inl (fun _ => 0))), (q_13, .inl (cA_14, 20, .inr (.inr (.inr (.inr (fun _ => none))))))] H := hP
  have hD : va_D A [(h0, .inr (5, [.ref a_n, .ref a_f, .ref a_l, .ref q_15, .ref q_1, .ref q_3, .ref q_5, .null, .ref q_7, .ref q_10, .int 0, .int 0, .ref q_13, .int 0, .int 0, .long 0, .int 0])), (q_1, .inl (cA_2, 300, .inr (.inr (.inr (.inr (fun _ => none)))))), (q_3, .inl (cA_4, 40, .inr (.inr (.inr (.inr (fun _ => none)))))), (q_5, .inl (cA_6, 4, .inr (.inr (.inr (.inr (fun _ => none)))))), (q_7, .inr (6, [.ref q_8, .int 0])), (q_8, .inl (cA_9, 1210, .inl (fun _ => 0))), (q_10, .inr (6, [.ref q_11, .int 0])), (q_11, .inl (cA_12, 1210, .inl (fun _ => 0))), (q_13, .inl (cA_14, 20, .inr (.inr (.inr (.inr (fun _ => none))))))] := hD
  refine lv_aload_n hx hb dX5_init_95 rfl (lv_at hl 0 rfl) ?_
  refine va_new (ci := 8) (fs := [.null, .null, .long 0, .int 0]) (C := RX8) (T := TX8) (N := 4) hx hb hts (by decide +kernel) tyX8 tyX8_ok hown (hts (.classLink RX5 9 RX8) (by decide +kernel)) (hts (.instantiable RX8 4) (by decide +kernel)) (hts (.initialized RX8) (by decide +kernel)) hK hP hD hS hA rfl (fun j hj => by rcases (show j = 0 ∨ j = 1 ∨ j = 2 ∨ j = 3 by omega) with rfl | rfl | rfl | rfl <;> rfl) (show 18 + 1 ≤ 22 by omega) (show 4406 + 4 ≤ 4413 by omega) dX5_init_96 (fun q_16 H hP hD hS => ?_)
  have hP : va_P (dC, dI) vwCl [(h0, .inr (5, [.ref a_n, .ref a_f, .ref a_l, .ref q_15, .ref q_1, .ref q_3, .ref q_5, .null, .ref q_7, .ref q_10, .int 0, .int 0, .ref q_13, .int 0, .int 0, .long 0, .int 0])), (q_1, .inl (cA_2, 300, .inr (.inr (.inr (.inr (fun _ => none)))))), (q_3, .inl (cA_4, 40, .inr (.inr (.inr (.inr (fun _ => none)))))), (q_5, .inl (cA_6, 4, .inr (.inr (.inr (.inr (fun _ => none)))))), (q_7, .inr (6, [.ref q_8, .int 0])), (q_8, .inl (cA_9, 1210, .inl (fun _ => 0))), (q_10, .inr (6, [.ref q_11, .int 0])), (q_11, .inl (cA_12, 1210, .inl (fun _ => 0))), (q_13, .inl (cA_14, 20, .inr (.inr (.inr (.inr (fun _ => none)))))), (q_16, .inr (8, [.null, .null, .long 0, .int 0]))] H := hP
  have hD : va_D A [(h0, .inr (5, [.ref a_n, .ref a_f, .ref a_l, .ref q_15, .ref q_1, .ref q_3, .ref q_5, .null, .ref q_7, .ref q_10, .int 0, .int 0, .ref q_13, .int 0, .int 0, .long 0, .int 0])), (q_1, .inl (cA_2, 300, .inr (.inr (.inr (.inr (fun _ => none)))))), (q_3, .inl (cA_4, 40, .inr (.inr (.inr (.inr (fun _ => none)))))), (q_5, .inl (cA_6, 4, .inr (.inr (.inr (.inr (fun _ => none)))))), (q_7, .inr (6, [.ref q_8, .int 0])), (q_8, .inl (cA_9, 1210, .inl (fun _ => 0))), (q_10, .inr (6, [.ref q_11, .int 0])), (q_11, .inl (cA_12, 1210, .inl (fun _ => 0))), (q_13, .inl (cA_14, 20, .inr (.inr (.inr (.inr (fun _ => none)))))), (q_16, .inr (8, [.null, .null, .long 0, .int 0]))] := hD
  refine W.widen (k := 19) (n := 4410) (by omega) (by omega) ?_
  refine lv_dup hx hb dX5_init_99 rfl ?_
  refine va_new (ci := 10) (fs := [.null, .int 0]) (C := RX10) (T := TX10) (N := 2) hx hb hts (by decide +kernel) tyX10 tyX10_ok hown (hts (.classLink RX5 37 RX10) (by decide +kernel)) (hts (.instantiable RX10 2) (by decide +kernel)) (hts (.initialized RX10) (by decide +kernel)) hK hP hD hS hA rfl (fun j hj => by rcases (show j = 0 ∨ j = 1 by omega) with rfl | rfl <;> rfl) (show 19 + 1 ≤ 22 by omega) (show 4410 + 2 ≤ 4413 by omega) dX5_init_100 (fun q_17 H hP hD hS => ?_)
  have hP : va_P (dC, dI) vwCl [(h0, .inr (5, [.ref a_n, .ref a_f, .ref a_l, .ref q_15, .ref q_1, .ref q_3, .ref q_5, .null, .ref q_7, .ref q_10, .int 0, .int 0, .ref q_13, .int 0, .int 0, .long 0, .int 0])), (q_1, .inl (cA_2, 300, .inr (.inr (.inr (.inr (fun _ => none)))))), (q_3, .inl (cA_4, 40, .inr (.inr (.inr (.inr (fun _ => none)))))), (q_5, .inl (cA_6, 4, .inr (.inr (.inr (.inr (fun _ => none)))))), (q_7, .inr (6, [.ref q_8, .int 0])), (q_8, .inl (cA_9, 1210, .inl (fun _ => 0))), (q_10, .inr (6, [.ref q_11, .int 0])), (q_11, .inl (cA_12, 1210, .inl (fun _ => 0))), (q_13, .inl (cA_14, 20, .inr (.inr (.inr (.inr (fun _ => none)))))), (q_16, .inr (8, [.null, .null, .long 0, .int 0])), (q_17, .inr (10, [.null, .int 0]))] H := hP
  have hD : va_D A [(h0, .inr (5, [.ref a_n, .ref a_f, .ref a_l, .ref q_15, .ref q_1, .ref q_3, .ref q_5, .null, .ref q_7, .ref q_10, .int 0, .int 0, .ref q_13, .int 0, .int 0, .long 0, .int 0])), (q_1, .inl (cA_2, 300, .inr (.inr (.inr (.inr (fun _ => none)))))), (q_3, .inl (cA_4, 40, .inr (.inr (.inr (.inr (fun _ => none)))))), (q_5, .inl (cA_6, 4, .inr (.inr (.inr (.inr (fun _ => none)))))), (q_7, .inr (6, [.ref q_8, .int 0])), (q_8, .inl (cA_9, 1210, .inl (fun _ => 0))), (q_10, .inr (6, [.ref q_11, .int 0])), (q_11, .inl (cA_12, 1210, .inl (fun _ => 0))), (q_13, .inl (cA_14, 20, .inr (.inr (.inr (.inr (fun _ => none)))))), (q_16, .inr (8, [.null, .null, .long 0, .int 0])), (q_17, .inr (10, [.null, .int 0]))] := hD
  refine W.widen (k := 20) (n := 4412) (by omega) (by omega) ?_
  refine lv_dup hx hb dX5_init_103 rfl ?_
  refine lv_iconst (v := 1) hx hb dX5_init_104 (by decide) ?_
  refine va_newa (atype := .int) (n := 1) (N' := 1) (ty := .int) (a0 := (1, .inl (fun _ => 0))) hx hb (hts (.arrayClass .int) (by decide +kernel)) rfl hK hP hD hS hA (fun _ => rfl) (by decide) (by decide) (by decide) (show 20 + 1 ≤ 22 by omega) (show 4412 + 1 ≤ 4413 by omega) dX5_init_105 (fun q_18 cA_19 H hK hP hD hS => ?_)
  have hP : va_P (dC, dI) vwCl [(h0, .inr (5, [.ref a_n, .ref a_f, .ref a_l, .ref q_15, .ref q_1, .ref q_3, .ref q_5, .null, .ref q_7, .ref q_10, .int 0, .int 0, .ref q_13, .int 0, .int 0, .long 0, .int 0])), (q_1, .inl (cA_2, 300, .inr (.inr (.inr (.inr (fun _ => none)))))), (q_3, .inl (cA_4, 40, .inr (.inr (.inr (.inr (fun _ => none)))))), (q_5, .inl (cA_6, 4, .inr (.inr (.inr (.inr (fun _ => none)))))), (q_7, .inr (6, [.ref q_8, .int 0])), (q_8, .inl (cA_9, 1210, .inl (fun _ => 0))), (q_10, .inr (6, [.ref q_11, .int 0])), (q_11, .inl (cA_12, 1210, .inl (fun _ => 0))), (q_13, .inl (cA_14, 20, .inr (.inr (.inr (.inr (fun _ => none)))))), (q_16, .inr (8, [.null, .null, .long 0, .int 0])), (q_17, .inr (10, [.null, .int 0])), (q_18, .inl (cA_19, 1, .inl (fun _ => 0)))] H := hP
  have hD : va_D A [(h0, .inr (5, [.ref a_n, .ref a_f, .ref a_l, .ref q_15, .ref q_1, .ref q_3, .ref q_5, .null, .ref q_7, .ref q_10, .int 0, .int 0, .ref q_13, .int 0, .int 0, .long 0, .int 0])), (q_1, .inl (cA_2, 300, .inr (.inr (.inr (.inr (fun _ => none)))))), (q_3, .inl (cA_4, 40, .inr (.inr (.inr (.inr (fun _ => none)))))), (q_5, .inl (cA_6, 4, .inr (.inr (.inr (.inr (fun _ => none)))))), (q_7, .inr (6, [.ref q_8, .int 0])), (q_8, .inl (cA_9, 1210, .inl (fun _ => 0))), (q_10, .inr (6, [.ref q_11, .int 0])), (q_11, .inl (cA_12, 1210, .inl (fun _ => 0))), (q_13, .inl (cA_14, 20, .inr (.inr (.inr (.inr (fun _ => none)))))), (q_16, .inr (8, [.null, .null, .long 0, .int 0])), (q_17, .inr (10, [.null, .int 0])), (q_18, .inl (cA_19, 1, .inl (fun _ => 0)))] := hD
  have hK : va_K (dC, dI) vwCl [(cA_2, .object RX8), (cA_4, .object RX8), (cA_6, .object RX8), (cA_9, .int), (cA_12, .int), (cA_14, .object RX10), (cA_19, .int)] s := hK
  refine W.widen (k := 21) (n := 4413) (by omega) (by omega) ?_
  refine lv_iconst (v := 0) hx hb dX5_init_107 (by decide) ?_
  have hPc := hP.sub (ws' := [(q_17, .inr (10, [.null, .int 0]))]) [10] rfl
  have hDc := hD.sub (ws' := [(q_17, .inr (10, [.null, .int 0]))]) [10] (by decide) rfl
  have hKc := hK.sub (tys' := []) [] rfl
  have hFc := va_free (wc := [(q_17, .inr (10, [.null, .int 0]))]) hD hS hA [10] rfl
  refine va_callv (va_runI (As := [.ref q_18, .int 0]) (rest := [.ref q_17, .ref q_16, .ref q_16, .ref h0]) ⟨hx, hb, hml, hown, hts⟩ (c_Thing_init l dC dI H.size q_17 q_18 0) (cwI 2 hts gX5_init_X10_init rfl rfl rfl (hts (.initialized RX10) (by decide +kernel)) (hts (.methodLink RX5 64 yX10_init) (by decide +kernel)) (hts (.instanceMethod yX10_init) (by decide +kernel)) rfl (by decide +kernel) ⟨Nat.le_of_ble_eq_true rfl, Nat.le_of_ble_eq_true rfl⟩) ⟨fun a U g mk q => by obtain ⟨q0, q1, qP, qK, qD⟩ := q; exact ⟨q0, q1, qP, va_K.moved (u := U) (U := U.calling g mk a) (Vm.Alike.refl U.vm) qK, qD⟩, fun U hU hW => ⟨rfl, by rw [hU], by rw [hU]; exact hPc, va_K.moved hW.alike hKc, hDc.weaken (fun _ _ _ _ => trivial)⟩⟩ rfl rfl hl.1 rfl (lv_room (Nat.le_of_ble_eq_true rfl)) dX5_init_108 ⟨(show 21 + 0 ≤ 22 by omega), (show 4413 + 0 ≤ 4413 by omega)⟩) hS (fun q _ h => hFc q h) hFc (fun u t H1 locs ht hvm hw hB hz1 hk1 hS => ?_)
  obtain ⟨hP1, hK1, hD1⟩ := hB
  rw [ht] at hP1
  have hK1 := va_K.moved hvm.symm hK1
  obtain ⟨hP, hD⟩ := va_join (wr := [(h0, .inr (5, [.ref a_n, .ref a_f, .ref a_l, .ref q_15, .ref q_1, .ref q_3, .ref q_5, .null, .ref q_7, .ref q_10, .int 0, .int 0, .ref q_13, .int 0, .int 0, .long 0, .int 0])), (q_1, .inl (cA_2, 300, .inr (.inr (.inr (.inr (fun _ => none)))))), (q_3, .inl (cA_4, 40, .inr (.inr (.inr (.inr (fun _ => none)))))), (q_5, .inl (cA_6, 4, .inr (.inr (.inr (.inr (fun _ => none)))))), (q_7, .inr (6, [.ref q_8, .int 0])), (q_8, .inl (cA_9, 1210, .inl (fun _ => 0))), (q_10, .inr (6, [.ref q_11, .int 0])), (q_11, .inl (cA_12, 1210, .inl (fun _ => 0))), (q_13, .inl (cA_14, 20, .inr (.inr (.inr (.inr (fun _ => none)))))), (q_16, .inr (8, [.null, .null, .long 0, .int 0])), (q_18, .inl (cA_19, 1, .inl (fun _ => 0)))]) (w1 := [(q_17, .inr (10, [.ref q_18, .int 0]))]) hP hD [10] [0, 1, 2, 3, 4, 5, 6, 7, 8, 9, 11] rfl rfl (by decide) (by decide) hk1 hFc hP1 hD1
  have hK := (hK.sub (tys' := [(cA_2, .object RX8), (cA_4, .object RX8), (cA_6, .object RX8), (cA_9, .int), (cA_12, .int), (cA_14, .object RX10), (cA_19, .int)]) [0, 1, 2, 3, 4, 5, 6] rfl).app hK1
  generalize H1 = H at hP hS ⊢
  have hP : va_P (dC, dI) vwCl [(h0, .inr (5, [.ref a_n, .ref a_f, .ref a_l, .ref q_15, .ref q_1, .ref q_3, .ref q_5, .null, .ref q_7, .ref q_10, .int 0, .int 0, .ref q_13, .int 0, .int 0, .long 0, .int 0])), (q_1, .inl (cA_2, 300, .inr (.inr (.inr (.inr (fun _ => none)))))), (q_3, .inl (cA_4, 40, .inr (.inr (.inr (.inr (fun _ => none)))))), (q_5, .inl (cA_6, 4, .inr (.inr (.inr (.inr (fun _ => none)))))), (q_7, .inr (6, [.ref q_8, .int 0])), (q_8, .inl (cA_9, 1210, .inl (fun _ => 0))), (q_10, .inr (6, [.ref q_11, .int 0])), (q_11, .inl (cA_12, 1210, .inl (fun _ => 0))), (q_13, .inl (cA_14, 20, .inr (.inr (.inr (.inr (fun _ => none)))))), (q_16, .inr (8, [.null, .null, .long 0, .int 0])), (q_18, .inl (cA_19, 1, .inl (fun _ => 0))), (q_17, .inr (10, [.ref q_18, .int 0]))] H := hP
  have hD : va_D A [(h0, .inr (5, [.ref a_n, .ref a_f, .ref a_l, .ref q_15, .ref q_1, .ref q_3, .ref q_5, .null, .ref q_7, .ref q_10, .int 0, .int 0, .ref q_13, .int 0, .int 0, .long 0, .int 0])), (q_1, .inl (cA_2, 300, .inr (.inr (.inr (.inr (fun _ => none)))))), (q_3, .inl (cA_4, 40, .inr (.inr (.inr (.inr (fun _ => none)))))), (q_5, .inl (cA_6, 4, .inr (.inr (.inr (.inr (fun _ => none)))))), (q_7, .inr (6, [.ref q_8, .int 0])), (q_8, .inl (cA_9, 1210, .inl (fun _ => 0))), (q_10, .inr (6, [.ref q_11, .int 0])), (q_11, .inl (cA_12, 1210, .inl (fun _ => 0))), (q_13, .inl (cA_14, 20, .inr (.inr (.inr (.inr (fun _ => none)))))), (q_16, .inr (8, [.null, .null, .long 0, .int 0])), (q_18, .inl (cA_19, 1, .inl (fun _ => 0))), (q_17, .inr (10, [.ref q_18, .int 0]))] := hD
  have hK : va_K (dC, dI) vwCl [(cA_2, .object RX8), (cA_4, .object RX8), (cA_6, .object RX8), (cA_9, .int), (cA_12, .int), (cA_14, .object RX10), (cA_19, .int)] s := hK
  refine W.widen (k := 21) (n := 4413) (by omega) (by omega) ?_
  refine lv_iconst (v := 0) hx hb dX5_init_111 (by decide) ?_
  refine va_newq (C := RX10) (n := 0) (N' := 0) hx hb hown (hts (.classLink RX5 37 RX10) (by decide +kernel)) hao10 hK hP hD hS hA (by decide) (by decide) (by decide) (show 21 + 1 ≤ 22 by omega) (show 4413 + 0 ≤ 4413 by omega) dX5_init_112 (fun q_20 cA_21 H hK hP hD hS => ?_)
  have hP : va_P (dC, dI) vwCl [(h0, .inr (5, [.ref a_n, .ref a_f, .ref a_l, .ref q_15, .ref q_1, .ref q_3, .ref q_5, .null, .ref q_7, .ref q_10, .int 0, .int 0, .ref q_13, .int 0, .int 0, .long 0, .int 0])), (q_1, .inl (cA_2, 300, .inr (.inr (.inr (.inr (fun _ => none)))))), (q_3, .inl (cA_4, 40, .inr (.inr (.inr (.inr (fun _ => none)))))), (q_5, .inl (cA_6, 4, .inr (.inr (.inr (.inr (fun _ => none)))))), (q_7, .inr (6, [.ref q_8, .int 0])), (q_8, .inl (cA_9, 1210, .inl (fun _ => 0))), (q_10, .inr (6, [.ref q_11, .int 0])), (q_11, .inl (cA_12, 1210, .inl (fun _ => 0))), (q_13, .inl (cA_14, 20, .inr (.inr (.inr (.inr (fun _ => none)))))), (q_16, .inr (8, [.null, .null, .long 0, .int 0])), (q_18, .inl (cA_19, 1, .inl (fun _ => 0))), (q_17, .inr (10, [.ref q_18, .int 0])), (q_20, .inl (cA_21, 0, .inr (.inr (.inr (.inr (fun _ => none))))))] H := hP
  have hD : va_D A [(h0, .inr (5, [.ref a_n, .ref a_f, .ref a_l, .ref q_15, .ref q_1, .ref q_3, .ref q_5, .null, .ref q_7, .ref q_10, .int 0, .int 0, .ref q_13, .int 0, .int 0, .long 0, .int 0])), (q_1, .inl (cA_2, 300, .inr (.inr (.inr (.inr (fun _ => none)))))), (q_3, .inl (cA_4, 40, .inr (.inr (.inr (.inr (fun _ => none)))))), (q_5, .inl (cA_6, 4, .inr (.inr (.inr (.inr (fun _ => none)))))), (q_7, .inr (6, [.ref q_8, .int 0])), (q_8, .inl (cA_9, 1210, .inl (fun _ => 0))), (q_10, .inr (6, [.ref q_11, .int 0])), (q_11, .inl (cA_12, 1210, .inl (fun _ => 0))), (q_13, .inl (cA_14, 20, .inr (.inr (.inr (.inr (fun _ => none)))))), (q_16, .inr (8, [.null, .null, .long 0, .int 0])), (q_18, .inl (cA_19, 1, .inl (fun _ => 0))), (q_17, .inr (10, [.ref q_18, .int 0])), (q_20, .inl (cA_21, 0, .inr (.inr (.inr (.inr (fun _ => none))))))] := hD
  have hK : va_K (dC, dI) vwCl [(cA_2, .object RX8), (cA_4, .object RX8), (cA_6, .object RX8), (cA_9, .int), (cA_12, .int), (cA_14, .object RX10), (cA_19, .int), (cA_21, .object RX10)] s := hK
  refine W.widen (k := 22) (n := 4413) (by omega) (by omega) ?_
  refine lv_lconst (v := 0) hx hb dX5_init_115 (by decide) ?_
  refine lv_iconst (v := 0) hx hb dX5_init_116 (by decide) ?_
  have hPc := hP.sub (ws' := [(q_16, .inr (8, [.null, .null, .long 0, .int 0]))]) [9] rfl
  have hDc := hD.sub (ws' := [(q_16, .inr (8, [.null, .null, .long 0, .int 0]))]) [9] (by decide) rfl
  have hKc := hK.sub (tys' := []) [] rfl
  have hFc := va_free (wc := [(q_16, .inr (8, [.null, .null, .long 0, .int 0]))]) hD hS hA [9] rfl
  refine va_callv (va_runI (As := [.ref q_17, .ref q_20, .long 0, .int 0]) (rest := [.ref q_16, .ref h0]) ⟨hx, hb, hml, hown, hts⟩ (c_Step_init l dC dI H.size q_16 q_17 q_20 0) (cwI 4 hts gX5_init_X8_init rfl rfl rfl (hts (.initialized RX8) (by decide +kernel)) (hts (.methodLink RX5 67 yX8_init) (by decide +kernel)) (hts (.instanceMethod yX8_init) (by decide +kernel)) rfl (by decide +kernel) ⟨Nat.le_of_ble_eq_true rfl, Nat.le_of_ble_eq_true rfl⟩) ⟨fun a U g mk q => by obtain ⟨q0, q1, qP, qK, qD⟩ := q; exact ⟨q0, q1, qP, va_K.moved (u := U) (U := U.calling g mk a) (Vm.Alike.refl U.vm) qK, qD⟩, fun U hU hW => ⟨rfl, by rw [hU], by rw [hU]; exact hPc, va_K.moved hW.alike hKc, hDc.weaken (fun _ _ _ _ => trivial)⟩⟩ rfl rfl hl.1 rfl (lv_room (Nat.le_of_ble_eq_true rfl)) dX5_init_117 ⟨(show 22 + 0 ≤ 22 by omega), (show 4413 + 0 ≤ 4413 by omega)⟩) hS (fun q _ h => hFc q h) hFc (fun u t H1 locs ht hvm hw hB hz1 hk1 hS => ?_)
  obtain ⟨hP1, hK1, hD1⟩ := hB
  rw [ht] at hP1
  have hK1 := va_K.moved hvm.symm hK1
  obtain ⟨hP, hD⟩ := va_join (wr := [(h0, .inr (5, [.ref a_n, .ref a_f, .ref a_l, .ref q_15, .ref q_1, .ref q_3, .ref q_5, .null, .ref q_7, .ref q_10, .int 0, .int 0, .ref q_13, .int 0, .int 0, .long 0, .int 0])), (q_1, .inl (cA_2, 300, .inr (.inr (.inr (.inr (fun _ => none)))))), (q_3, .inl (cA_4, 40, .inr (.inr (.inr (.inr (fun _ => none)))))), (q_5, .inl (cA_6, 4, .inr (.inr (.inr (.inr (fun _ => none)))))), (q_7, .inr (6, [.ref q_8, .int 0])), (q_8, .inl (cA_9, 1210, .inl (fun _ => 0))), (q_10, .inr (6, [.ref q_11, .int 0])), (q_11, .inl (cA_12, 1210, .inl (fun _ => 0))), (q_13, .inl (cA_14, 20, .inr (.inr (.inr (.inr (fun _ => none)))))), (q_18, .inl (cA_19, 1, .inl (fun _ => 0))), (q_17, .inr (10, [.ref q_18, .int 0])), (q_20, .inl (cA_21, 0, .inr (.inr (.inr (.inr (fun _ => none))))))]) (w1 := [(q_16, .inr (8, [.ref q_17, .ref q_20, .long 0, .int 0]))]) hP hD [9] [0, 1, 2, 3, 4, 5, 6, 7, 8, 10, 11, 12] rfl rfl (by decide) (by decide) hk1 hFc hP1 hD1
  have hK := (hK.sub (tys' := [(cA_2, .object RX8), (cA_4, .object RX8), (cA_6, .object RX8), (cA_9, .int), (cA_12, .int), (cA_14, .object RX10), (cA_19, .int), (cA_21, .object RX10)]) [0, 1, 2, 3, 4, 5, 6, 7] rfl).app hK1
  generalize H1 = H at hP hS ⊢
  have hP : va_P (dC, dI) vwCl [(h0, .inr (5, [.ref a_n, .ref a_f, .ref a_l, .ref q_15, .ref q_1, .ref q_3, .ref q_5, .null, .ref q_7, .ref q_10, .int 0, .int 0, .ref q_13, .int 0, .int 0, .long 0, .int 0])), (q_1, .inl (cA_2, 300, .inr (.inr (.inr (.inr (fun _ => none)))))), (q_3, .inl (cA_4, 40, .inr (.inr (.inr (.inr (fun _ => none)))))), (q_5, .inl (cA_6, 4, .inr (.inr (.inr (.inr (fun _ => none)))))), (q_7, .inr (6, [.ref q_8, .int 0])), (q_8, .inl (cA_9, 1210, .inl (fun _ => 0))), (q_10, .inr (6, [.ref q_11, .int 0])), (q_11, .inl (cA_12, 1210, .inl (fun _ => 0))), (q_13, .inl (cA_14, 20, .inr (.inr (.inr (.inr (fun _ => none)))))), (q_18, .inl (cA_19, 1, .inl (fun _ => 0))), (q_17, .inr (10, [.ref q_18, .int 0])), (q_20, .inl (cA_21, 0, .inr (.inr (.inr (.inr (fun _ => none)))))), (q_16, .inr (8, [.ref q_17, .ref q_20, .long 0, .int 0]))] H := hP
  have hD : va_D A [(h0, .inr (5, [.ref a_n, .ref a_f, .ref a_l, .ref q_15, .ref q_1, .ref q_3, .ref q_5, .null, .ref q_7, .ref q_10, .int 0, .int 0, .ref q_13, .int 0, .int 0, .long 0, .int 0])), (q_1, .inl (cA_2, 300, .inr (.inr (.inr (.inr (fun _ => none)))))), (q_3, .inl (cA_4, 40, .inr (.inr (.inr (.inr (fun _ => none)))))), (q_5, .inl (cA_6, 4, .inr (.inr (.inr (.inr (fun _ => none)))))), (q_7, .inr (6, [.ref q_8, .int 0])), (q_8, .inl (cA_9, 1210, .inl (fun _ => 0))), (q_10, .inr (6, [.ref q_11, .int 0])), (q_11, .inl (cA_12, 1210, .inl (fun _ => 0))), (q_13, .inl (cA_14, 20, .inr (.inr (.inr (.inr (fun _ => none)))))), (q_18, .inl (cA_19, 1, .inl (fun _ => 0))), (q_17, .inr (10, [.ref q_18, .int 0])), (q_20, .inl (cA_21, 0, .inr (.inr (.inr (.inr (fun _ => none)))))), (q_16, .inr (8, [.ref q_17, .ref q_20, .long 0, .int 0]))] := hD
  have hK : va_K (dC, dI) vwCl [(cA_2, .object RX8), (cA_4, .object RX8), (cA_6, .object RX8), (cA_9, .int), (cA_12, .int), (cA_14, .object RX10), (cA_19, .int), (cA_21, .object RX10)] s := hK
  refine W.widen (k := 22) (n := 4413) (by omega) (by omega) ?_
  refine va_putF (D := (dC, dI)) (ci := 5) (v := .ref q_16) (ty := .object "ProofBench$Step") (C := RX5) (T := TX5) (N := 17) hx hb hts (by decide +kernel) tyX5 tyX5_ok nmX5 hown hK hP hD hS 0 rfl rfl 7 (by decide) (hts (.fieldLink RX5 70 "ProofBench$Proof" "nothing" "LProofBench$Step;") (by decide +kernel)) (fun _ h9 => h9) rfl hin rfl (by decide +kernel) rfl rfl (Nat.le_of_ble_eq_true rfl) dX5_init_120 (fun H locs hP hD hS => ?_)
  have hP : va_P (dC, dI) vwCl [(h0, .inr (5, [.ref a_n, .ref a_f, .ref a_l, .ref q_15, .ref q_1, .ref q_3, .ref q_5, .ref q_16, .ref q_7, .ref q_10, .int 0, .int 0, .ref q_13, .int 0, .int 0, .long 0, .int 0])), (q_1, .inl (cA_2, 300, .inr (.inr (.inr (.inr (fun _ => none)))))), (q_3, .inl (cA_4, 40, .inr (.inr (.inr (.inr (fun _ => none)))))), (q_5, .inl (cA_6, 4, .inr (.inr (.inr (.inr (fun _ => none)))))), (q_7, .inr (6, [.ref q_8, .int 0])), (q_8, .inl (cA_9, 1210, .inl (fun _ => 0))), (q_10, .inr (6, [.ref q_11, .int 0])), (q_11, .inl (cA_12, 1210, .inl (fun _ => 0))), (q_13, .inl (cA_14, 20, .inr (.inr (.inr (.inr (fun _ => none)))))), (q_18, .inl (cA_19, 1, .inl (fun _ => 0))), (q_17, .inr (10, [.ref q_18, .int 0])), (q_20, .inl (cA_21, 0, .inr (.inr (.inr (.inr (fun _ => none)))))), (q_16, .inr (8, [.ref q_17, .ref q_20, .long 0, .int 0]))] H := hP
  have hD : va_D A [(h0, .inr (5, [.ref a_n, .ref a_f, .ref a_l, .ref q_15, .ref q_1, .ref q_3, .ref q_5, .ref q_16, .ref q_7, .ref q_10, .int 0, .int 0, .ref q_13, .int 0, .int 0, .long 0, .int 0])), (q_1, .inl (cA_2, 300, .inr (.inr (.inr (.inr (fun _ => none)))))), (q_3, .inl (cA_4, 40, .inr (.inr (.inr (.inr (fun _ => none)))))), (q_5, .inl (cA_6, 4, .inr (.inr (.inr (.inr (fun _ => none)))))), (q_7, .inr (6, [.ref q_8, .int 0])), (q_8, .inl (cA_9, 1210, .inl (fun _ => 0))), (q_10, .inr (6, [.ref q_11, .int 0])), (q_11, .inl (cA_12, 1210, .inl (fun _ => 0))), (q_13, .inl (cA_14, 20, .inr (.inr (.inr (.inr (fun _ => none)))))), (q_18, .inl (cA_19, 1, .inl (fun _ => 0))), (q_17, .inr (10, [.ref q_18, .int 0])), (q_20, .inl (cA_21, 0, .inr (.inr (.inr (.inr (fun _ => none)))))), (q_16, .inr (8, [.ref q_17, .ref q_20, .long 0, .int 0]))] := hD
  refine lv_iconst (v := 0) hx hb dX5_init_123 (by decide) ?_
  refine lv_istore (lv' := [(4, .int 0), (0, .ref h0), (1, .ref a_n), (2, .ref a_f), (3, .ref a_l)]) hx hb dX5_init_124 hl (by decide) rfl (fun ls hl => ?_)
  refine lv_iload hx hb dX5_init_126 (lv_at hl 0 rfl) ?_
  refine lv_aload_n hx hb dX5_init_128 rfl (lv_at hl 1 rfl) ?_
  refine va_get (D := (dC, dI)) (ci := 5) (v := .ref q_5) (C := RX5) (T := TX5) (N := 17) hx hb hts (by decide +kernel) hown hK hP 0 rfl rfl 6 (by decide) (hts (.fieldLink RX5 22 "ProofBench$Proof" "named" "[LProofBench$Step;") (by decide +kernel)) (fun _ h9 => h9) rfl dX5_init_129 ?_
  refine va_alen hx hb hK hP 3 2 rfl rfl (v := 4) (show Int32.ofNat 4 = 4 from by decide) dX5_init_132 ?_
  refine lv_icmp_ge (tgt := 153) hx hb dX5_init_133 (by decide) (fun c9 => absurd c9 (by decide)) (fun _ => ?_)
  refine lv_aload_n hx hb dX5_init_136 rfl (lv_at hl 1 rfl) ?_
  refine va_get (D := (dC, dI)) (ci := 5) (v := .ref q_5) (C := RX5) (T := TX5) (N := 17) hx hb hts (by decide +kernel) hown hK hP 0 rfl rfl 6 (by decide) (hts (.fieldLink RX5 22 "ProofBench$Proof" "named" "[LProofBench$Step;") (by decide +kernel)) (fun _ h9 => h9) rfl dX5_init_137 ?_
  refine lv_iload hx hb dX5_init_140 (lv_at hl 0 rfl) ?_
  refine lv_aload_n hx hb dX5_init_142 rfl (lv_at hl 1 rfl) ?_
  refine va_get (D := (dC, dI)) (ci := 5) (v := .ref q_16) (C := RX5) (T := TX5) (N := 17) hx hb hts (by decide +kernel) hown hK hP 0 rfl rfl 7 (by decide) (hts (.fieldLink RX5 70 "ProofBench$Proof" "nothing" "LProofBench$Step;") (by decide +kernel)) (fun _ h9 => h9) rfl dX5_init_143 ?_
  refine va_astq (r := (RX8, TX8, 4)) hx hb hK hP hD hS 3 2 12 8 rfl rfl rfl rfl (show vp_in (0) 4 from by unfold vp_in; decide) dX5_init_146 (fun H locs hP hD hS => ?_)
  obtain ⟨f_22, hP, hD⟩ : ∃ f9 : Nat → Option Nat, va_P (dC, dI) vwCl [(h0, .inr (5, [.ref a_n, .ref a_f, .ref a_l, .ref q_15, .ref q_1, .ref q_3, .ref q_5, .ref q_16, .ref q_7, .ref q_10, .int 0, .int 0, .ref q_13, .int 0, .int 0, .long 0, .int 0])), (q_1, .inl (cA_2, 300, .inr (.inr (.inr (.inr (fun _ => none)))))), (q_3, .inl (cA_4, 40, .inr (.inr (.inr (.inr (fun _ => none)))))), (q_5, .inl (cA_6, 4, .inr (.inr (.inr (.inr (f9)))))), (q_7, .inr (6, [.ref q_8, .int 0])), (q_8, .inl (cA_9, 1210, .inl (fun _ => 0))), (q_10, .inr (6, [.ref q_11, .int 0])), (q_11, .inl (cA_12, 1210, .inl (fun _ => 0))), (q_13, .inl (cA_14, 20, .inr (.inr (.inr (.inr (fun _ => none)))))), (q_18, .inl (cA_19, 1, .inl (fun _ => 0))), (q_17, .inr (10, [.ref q_18, .int 0])), (q_20, .inl (cA_21, 0, .inr (.inr (.inr (.inr (fun _ => none)))))), (q_16, .inr (8, [.ref q_17, .ref q_20, .long 0, .int 0]))] H ∧ va_D A [(h0, .inr (5, [.ref a_n, .ref a_f, .ref a_l, .ref q_15, .ref q_1, .ref q_3, .ref q_5, .ref q_16, .ref q_7, .ref q_10, .int 0, .int 0, .ref q_13, .int 0, .int 0, .long 0, .int 0])), (q_1, .inl (cA_2, 300, .inr (.inr (.inr (.inr (fun _ => none)))))), (q_3, .inl (cA_4, 40, .inr (.inr (.inr (.inr (fun _ => none)))))), (q_5, .inl (cA_6, 4, .inr (.inr (.inr (.inr (f9)))))), (q_7, .inr (6, [.ref q_8, .int 0])), (q_8, .inl (cA_9, 1210, .inl (fun _ => 0))), (q_10, .inr (6, [.ref q_11, .int 0])), (q_11, .inl (cA_12, 1210, .inl (fun _ => 0))), (q_13, .inl (cA_14, 20, .inr (.inr (.inr (.inr (fun _ => none)))))), (q_18, .inl (cA_19, 1, .inl (fun _ => 0))), (q_17, .inr (10, [.ref q_18, .int 0])), (q_20, .inl (cA_21, 0, .inr (.inr (.inr (.inr (fun _ => none)))))), (q_16, .inr (8, [.ref q_17, .ref q_20, .long 0, .int 0]))] := ⟨_, hP, hD⟩
  refine lv_iinc (v := 1) (lv' := [(4, .int 1), (0, .ref h0), (1, .ref a_n), (2, .ref a_f), (3, .ref a_l)]) hx hb dX5_init_147 hl (k := 0) rfl (by decide) (by decide) rfl (fun ls hl => ?_)
  refine lv_goto (tgt := 126) hx hb dX5_init_150 (by decide) ?_
  refine lv_iload hx hb dX5_init_126 (lv_at hl 0 rfl) ?_
  refine lv_aload_n hx hb dX5_init_128 rfl (lv_at hl 1 rfl) ?_
  refine va_get (D := (dC, dI)) (ci := 5) (v := .ref q_5) (C := RX5) (T := TX5) (N := 17) hx hb hts (by decide +kernel) hown hK hP 0 rfl rfl 6 (by decide) (hts (.fieldLink RX5 22 "ProofBench$Proof" "named" "[LProofBench$Step;") (by decide +kernel)) (fun _ h9 => h9) rfl dX5_init_129 ?_
  refine va_alen hx hb hK hP 3 2 rfl rfl (v := 4) (show Int32.ofNat 4 = 4 from by decide) dX5_init_132 ?_
  refine lv_icmp_ge (tgt := 153) hx hb dX5_init_133 (by decide) (fun c9 => absurd c9 (by decide)) (fun _ => ?_)
  refine lv_aload_n hx hb dX5_init_136 rfl (lv_at hl 1 rfl) ?_
  refine va_get (D := (dC, dI)) (ci := 5) (v := .ref q_5) (C := RX5) (T := TX5) (N := 17) hx hb hts (by decide +kernel) hown hK hP 0 rfl rfl 6 (by decide) (hts (.fieldLink RX5 22 "ProofBench$Proof" "named" "[LProofBench$Step;") (by decide +kernel)) (fun _ h9 => h9) rfl dX5_init_137 ?_
  refine lv_iload hx hb dX5_init_140 (lv_at hl 0 rfl) ?_
  refine lv_aload_n hx hb dX5_init_142 rfl (lv_at hl 1 rfl) ?_
  refine va_get (D := (dC, dI)) (ci := 5) (v := .ref q_16) (C := RX5) (T := TX5) (N := 17) hx hb hts (by decide +kernel) hown hK hP 0 rfl rfl 7 (by decide) (hts (.fieldLink RX5 70 "ProofBench$Proof" "nothing" "LProofBench$Step;") (by decide +kernel)) (fun _ h9 => h9) rfl dX5_init_143 ?_
  refine va_astq (r := (RX8, TX8, 4)) hx hb hK hP hD hS 3 2 12 8 rfl rfl rfl rfl (show vp_in (1) 4 from by unfold vp_in; decide) dX5_init_146 (fun H locs hP hD hS => ?_)
  obtain ⟨f_23, hP, hD⟩ : ∃ f9 : Nat → Option Nat, va_P (dC, dI) vwCl [(h0, .inr (5, [.ref a_n, .ref a_f, .ref a_l, .ref q_15, .ref q_1, .ref q_3, .ref q_5, .ref q_16, .ref q_7, .ref q_10, .int 0, .int 0, .ref q_13, .int 0, .int 0, .long 0, .int 0])), (q_1, .inl (cA_2, 300, .inr (.inr (.inr (.inr (fun _ => none)))))), (q_3, .inl (cA_4, 40, .inr (.inr (.inr (.inr (fun _ => none)))))), (q_5, .inl (cA_6, 4, .inr (.inr (.inr (.inr (f9)))))), (q_7, .inr (6, [.ref q_8, .int 0])), (q_8, .inl (cA_9, 1210, .inl (fun _ => 0))), (q_10, .inr (6, [.ref q_11, .int 0])), (q_11, .inl (cA_12, 1210, .inl (fun _ => 0))), (q_13, .inl (cA_14, 20, .inr (.inr (.inr (.inr (fun _ => none)))))), (q_18, .inl (cA_19, 1, .inl (fun _ => 0))), (q_17, .inr (10, [.ref q_18, .int 0])), (q_20, .inl (cA_21, 0, .inr (.inr (.inr (.inr (fun _ => none)))))), (q_16, .inr (8, [.ref q_17, .ref q_20, .long 0, .int 0]))] H ∧ va_D A [(h0, .inr (5, [.ref a_n, .ref a_f, .ref a_l, .ref q_15, .ref q_1, .ref q_3, .ref q_5, .ref q_16, .ref q_7, .ref q_10, .int 0, .int 0, .ref q_13, .int 0, .int 0, .long 0, .int 0])), (q_1, .inl (cA_2, 300, .inr (.inr (.inr (.inr (fun _ => none)))))), (q_3, .inl (cA_4, 40, .inr (.inr (.inr (.inr (fun _ => none)))))), (q_5, .inl (cA_6, 4, .inr (.inr (.inr (.inr (f9)))))), (q_7, .inr (6, [.ref q_8, .int 0])), (q_8, .inl (cA_9, 1210, .inl (fun _ => 0))), (q_10, .inr (6, [.ref q_11, .int 0])), (q_11, .inl (cA_12, 1210, .inl (fun _ => 0))), (q_13, .inl (cA_14, 20, .inr (.inr (.inr (.inr (fun _ => none)))))), (q_18, .inl (cA_19, 1, .inl (fun _ => 0))), (q_17, .inr (10, [.ref q_18, .int 0])), (q_20, .inl (cA_21, 0, .inr (.inr (.inr (.inr (fun _ => none)))))), (q_16, .inr (8, [.ref q_17, .ref q_20, .long 0, .int 0]))] := ⟨_, hP, hD⟩
  refine lv_iinc (v := 2) (lv' := [(4, .int 2), (0, .ref h0), (1, .ref a_n), (2, .ref a_f), (3, .ref a_l)]) hx hb dX5_init_147 hl (k := 0) rfl (by decide) (by decide) rfl (fun ls hl => ?_)
  refine lv_goto (tgt := 126) hx hb dX5_init_150 (by decide) ?_
  refine lv_iload hx hb dX5_init_126 (lv_at hl 0 rfl) ?_
  refine lv_aload_n hx hb dX5_init_128 rfl (lv_at hl 1 rfl) ?_
  refine va_get (D := (dC, dI)) (ci := 5) (v := .ref q_5) (C := RX5) (T := TX5) (N := 17) hx hb hts (by decide +kernel) hown hK hP 0 rfl rfl 6 (by decide) (hts (.fieldLink RX5 22 "ProofBench$Proof" "named" "[LProofBench$Step;") (by decide +kernel)) (fun _ h9 => h9) rfl dX5_init_129 ?_
  refine va_alen hx hb hK hP 3 2 rfl rfl (v := 4) (show Int32.ofNat 4 = 4 from by decide) dX5_init_132 ?_
  refine lv_icmp_ge (tgt := 153) hx hb dX5_init_133 (by decide) (fun c9 => absurd c9 (by decide)) (fun _ => ?_)
  refine lv_aload_n hx hb dX5_init_136 rfl (lv_at hl 1 rfl) ?_
  refine va_get (D := (dC, dI)) (ci := 5) (v := .ref q_5) (C := RX5) (T := TX5) (N := 17) hx hb hts (by decide +kernel) hown hK hP 0 rfl rfl 6 (by decide) (hts (.fieldLink RX5 22 "ProofBench$Proof" "named" "[LProofBench$Step;") (by decide +kernel)) (fun _ h9 => h9) rfl dX5_init_137 ?_
  refine lv_iload hx hb dX5_init_140 (lv_at hl 0 rfl) ?_
  refine lv_aload_n hx hb dX5_init_142 rfl (lv_at hl 1 rfl) ?_
  refine va_get (D := (dC, dI)) (ci := 5) (v := .ref q_16) (C := RX5) (T := TX5) (N := 17) hx hb hts (by decide +kernel) hown hK hP 0 rfl rfl 7 (by decide) (hts (.fieldLink RX5 70 "ProofBench$Proof" "nothing" "LProofBench$Step;") (by decide +kernel)) (fun _ h9 => h9) rfl dX5_init_143 ?_
  refine va_astq (r := (RX8, TX8, 4)) hx hb hK hP hD hS 3 2 12 8 rfl rfl rfl rfl (show vp_in (2) 4 from by unfold vp_in; decide) dX5_init_146 (fun H locs hP hD hS => ?_)
  obtain ⟨f_24, hP, hD⟩ : ∃ f9 : Nat → Option Nat, va_P (dC, dI) vwCl [(h0, .inr (5, [.ref a_n, .ref a_f, .ref a_l, .ref q_15, .ref q_1, .ref q_3, .ref q_5, .ref q_16, .ref q_7, .ref q_10, .int 0, .int 0, .ref q_13, .int 0, .int 0, .long 0, .int 0])), (q_1, .inl (cA_2, 300, .inr (.inr (.inr (.inr (fun _ => none)))))), (q_3, .inl (cA_4, 40, .inr (.inr (.inr (.inr (fun _ => none)))))), (q_5, .inl (cA_6, 4, .inr (.inr (.inr (.inr (f9)))))), (q_7, .inr (6, [.ref q_8, .int 0])), (q_8, .inl (cA_9, 1210, .inl (fun _ => 0))), (q_10, .inr (6, [.ref q_11, .int 0])), (q_11, .inl (cA_12, 1210, .inl (fun _ => 0))), (q_13, .inl (cA_14, 20, .inr (.inr (.inr (.inr (fun _ => none)))))), (q_18, .inl (cA_19, 1, .inl (fun _ => 0))), (q_17, .inr (10, [.ref q_18, .int 0])), (q_20, .inl (cA_21, 0, .inr (.inr (.inr (.inr (fun _ => none)))))), (q_16, .inr (8, [.ref q_17, .ref q_20, .long 0, .int 0]))] H ∧ va_D A [(h0, .inr (5, [.ref a_n, .ref a_f, .ref a_l, .ref q_15, .ref q_1, .ref q_3, .ref q_5, .ref q_16, .ref q_7, .ref q_10, .int 0, .int 0, .ref q_13, .int 0, .int 0, .long 0, .int 0])), (q_1, .inl (cA_2, 300, .inr (.inr (.inr (.inr (fun _ => none)))))), (q_3, .inl (cA_4, 40, .inr (.inr (.inr (.inr (fun _ => none)))))), (q_5, .inl (cA_6, 4, .inr (.inr (.inr (.inr (f9)))))), (q_7, .inr (6, [.ref q_8, .int 0])), (q_8, .inl (cA_9, 1210, .inl (fun _ => 0))), (q_10, .inr (6, [.ref q_11, .int 0])), (q_11, .inl (cA_12, 1210, .inl (fun _ => 0))), (q_13, .inl (cA_14, 20, .inr (.inr (.inr (.inr (fun _ => none)))))), (q_18, .inl (cA_19, 1, .inl (fun _ => 0))), (q_17, .inr (10, [.ref q_18, .int 0])), (q_20, .inl (cA_21, 0, .inr (.inr (.inr (.inr (fun _ => none)))))), (q_16, .inr (8, [.ref q_17, .ref q_20, .long 0, .int 0]))] := ⟨_, hP, hD⟩
  refine lv_iinc (v := 3) (lv' := [(4, .int 3), (0, .ref h0), (1, .ref a_n), (2, .ref a_f), (3, .ref a_l)]) hx hb dX5_init_147 hl (k := 0) rfl (by decide) (by decide) rfl (fun ls hl => ?_)
  refine lv_goto (tgt := 126) hx hb dX5_init_150 (by decide) ?_
  refine lv_iload hx hb dX5_init_126 (lv_at hl 0 rfl) ?_
  refine lv_aload_n hx hb dX5_init_128 rfl (lv_at hl 1 rfl) ?_
  refine va_get (D := (dC, dI)) (ci := 5) (v := .ref q_5) (C := RX5) (T := TX5) (N := 17) hx hb hts (by decide +kernel) hown hK hP 0 rfl rfl 6 (by decide) (hts (.fieldLink RX5 22 "ProofBench$Proof" "named" "[LProofBench$Step;") (by decide +kernel)) (fun _ h9 => h9) rfl dX5_init_129 ?_
  refine va_alen hx hb hK hP 3 2 rfl rfl (v := 4) (show Int32.ofNat 4 = 4 from by decide) dX5_init_132 ?_
  refine lv_icmp_ge (tgt := 153) hx hb dX5_init_133 (by decide) (fun c9 => absurd c9 (by decide)) (fun _ => ?_)
  refine lv_aload_n hx hb dX5_init_136 rfl (lv_at hl 1 rfl) ?_
  refine va_get (D := (dC, dI)) (ci := 5) (v := .ref q_5) (C := RX5) (T := TX5) (N := 17) hx hb hts (by decide +kernel) hown hK hP 0 rfl rfl 6 (by decide) (hts (.fieldLink RX5 22 "ProofBench$Proof" "named" "[LProofBench$Step;") (by decide +kernel)) (fun _ h9 => h9) rfl dX5_init_137 ?_
  refine lv_iload hx hb dX5_init_140 (lv_at hl 0 rfl) ?_
  refine lv_aload_n hx hb dX5_init_142 rfl (lv_at hl 1 rfl) ?_
  refine va_get (D := (dC, dI)) (ci := 5) (v := .ref q_16) (C := RX5) (T := TX5) (N := 17) hx hb hts (by decide +kernel) hown hK hP 0 rfl rfl 7 (by decide) (hts (.fieldLink RX5 70 "ProofBench$Proof" "nothing" "LProofBench$Step;") (by decide +kernel)) (fun _ h9 => h9) rfl dX5_init_143 ?_
  refine va_astq (r := (RX8, TX8, 4)) hx hb hK hP hD hS 3 2 12 8 rfl rfl rfl rfl (show vp_in (3) 4 from by unfold vp_in; decide) dX5_init_146 (fun H locs hP hD hS => ?_)
  obtain ⟨f_25, hP, hD⟩ : ∃ f9 : Nat → Option Nat, va_P (dC, dI) vwCl [(h0, .inr (5, [.ref a_n, .ref a_f, .ref a_l, .ref q_15, .ref q_1, .ref q_3, .ref q_5, .ref q_16, .ref q_7, .ref q_10, .int 0, .int 0, .ref q_13, .int 0, .int 0, .long 0, .int 0])), (q_1, .inl (cA_2, 300, .inr (.inr (.inr (.inr (fun _ => none)))))), (q_3, .inl (cA_4, 40, .inr (.inr (.inr (.inr (fun _ => none)))))), (q_5, .inl (cA_6, 4, .inr (.inr (.inr (.inr (f9)))))), (q_7, .inr (6, [.ref q_8, .int 0])), (q_8, .inl (cA_9, 1210, .inl (fun _ => 0))), (q_10, .inr (6, [.ref q_11, .int 0])), (q_11, .inl (cA_12, 1210, .inl (fun _ => 0))), (q_13, .inl (cA_14, 20, .inr (.inr (.inr (.inr (fun _ => none)))))), (q_18, .inl (cA_19, 1, .inl (fun _ => 0))), (q_17, .inr (10, [.ref q_18, .int 0])), (q_20, .inl (cA_21, 0, .inr (.inr (.inr (.inr (fun _ => none)))))), (q_16, .inr (8, [.ref q_17, .ref q_20, .long 0, .int 0]))] H ∧ va_D A [(h0, .inr (5, [.ref a_n, .ref a_f, .ref a_l, .ref q_15, .ref q_1, .ref q_3, .ref q_5, .ref q_16, .ref q_7, .ref q_10, .int 0, .int 0, .ref q_13, .int 0, .int 0, .long 0, .int 0])), (q_1, .inl (cA_2, 300, .inr (.inr (.inr (.inr (fun _ => none)))))), (q_3, .inl (cA_4, 40, .inr (.inr (.inr (.inr (fun _ => none)))))), (q_5, .inl (cA_6, 4, .inr (.inr (.inr (.inr (f9)))))), (q_7, .inr (6, [.ref q_8, .int 0])), (q_8, .inl (cA_9, 1210, .inl (fun _ => 0))), (q_10, .inr (6, [.ref q_11, .int 0])), (q_11, .inl (cA_12, 1210, .inl (fun _ => 0))), (q_13, .inl (cA_14, 20, .inr (.inr (.inr (.inr (fun _ => none)))))), (q_18, .inl (cA_19, 1, .inl (fun _ => 0))), (q_17, .inr (10, [.ref q_18, .int 0])), (q_20, .inl (cA_21, 0, .inr (.inr (.inr (.inr (fun _ => none)))))), (q_16, .inr (8, [.ref q_17, .ref q_20, .long 0, .int 0]))] := ⟨_, hP, hD⟩
  refine lv_iinc (v := 4) (lv' := [(4, .int 4), (0, .ref h0), (1, .ref a_n), (2, .ref a_f), (3, .ref a_l)]) hx hb dX5_init_147 hl (k := 0) rfl (by decide) (by decide) rfl (fun ls hl => ?_)
  refine lv_goto (tgt := 126) hx hb dX5_init_150 (by decide) ?_
  refine lv_iload hx hb dX5_init_126 (lv_at hl 0 rfl) ?_
  refine lv_aload_n hx hb dX5_init_128 rfl (lv_at hl 1 rfl) ?_
  refine va_get (D := (dC, dI)) (ci := 5) (v := .ref q_5) (C := RX5) (T := TX5) (N := 17) hx hb hts (by decide +kernel) hown hK hP 0 rfl rfl 6 (by decide) (hts (.fieldLink RX5 22 "ProofBench$Proof" "named" "[LProofBench$Step;") (by decide +kernel)) (fun _ h9 => h9) rfl dX5_init_129 ?_
  refine va_alen hx hb hK hP 3 2 rfl rfl (v := 4) (show Int32.ofNat 4 = 4 from by decide) dX5_init_132 ?_
  refine lv_icmp_ge (tgt := 153) hx hb dX5_init_133 (by decide) (fun _ => ?_) (fun c9 => absurd c9 (by decide))
  refine lv_iconst (v := 0) hx hb dX5_init_153 (by decide) ?_
  refine lv_istore (lv' := [(4, .int 0), (0, .ref h0), (1, .ref a_n), (2, .ref a_f), (3, .ref a_l)]) hx hb dX5_init_154 hl (by decide) rfl (fun ls hl => ?_)
  refine lv_iload hx hb dX5_init_156 (lv_at hl 0 rfl) ?_
  refine lv_aload_n hx hb dX5_init_158 rfl (lv_at hl 1 rfl) ?_
  refine va_get (D := (dC, dI)) (ci := 5) (v := .ref q_13) (C := RX5) (T := TX5) (N := 17) hx hb hts (by decide +kernel) hown hK hP 0 rfl rfl 12 (by decide) (hts (.fieldLink RX5 39 "ProofBench$Proof" "kept" "[LProofBench$Thing;") (by decide +kernel)) (fun _ h9 => h9) rfl dX5_init_159 ?_
  refine va_alen hx hb hK hP 8 5 rfl rfl (v := 20) (show Int32.ofNat 20 = 20 from by decide) dX5_init_162 ?_
  refine lv_icmp_ge (tgt := 186) hx hb dX5_init_163 (by decide) (fun c9 => absurd c9 (by decide)) (fun _ => ?_)
  refine lv_aload_n hx hb dX5_init_166 rfl (lv_at hl 1 rfl) ?_
  refine va_get (D := (dC, dI)) (ci := 5) (v := .ref q_13) (C := RX5) (T := TX5) (N := 17) hx hb hts (by decide +kernel) hown hK hP 0 rfl rfl 12 (by decide) (hts (.fieldLink RX5 39 "ProofBench$Proof" "kept" "[LProofBench$Thing;") (by decide +kernel)) (fun _ h9 => h9) rfl dX5_init_167 ?_
  refine lv_iload hx hb dX5_init_170 (lv_at hl 0 rfl) ?_
  refine lv_aload_n hx hb dX5_init_172 rfl (lv_at hl 1 rfl) ?_
  refine va_get (D := (dC, dI)) (ci := 5) (v := .ref q_16) (C := RX5) (T := TX5) (N := 17) hx hb hts (by decide +kernel) hown hK hP 0 rfl rfl 7 (by decide) (hts (.fieldLink RX5 70 "ProofBench$Proof" "nothing" "LProofBench$Step;") (by decide +kernel)) (fun _ h9 => h9) rfl dX5_init_173 ?_
  refine va_get (D := (dC, dI)) (ci := 8) (v := .ref q_17) (C := RX8) (T := TX8) (N := 4) hx hb hts (by decide +kernel) hown hK hP 12 rfl rfl 0 (by decide) (hts (.fieldLink RX5 74 "ProofBench$Step" "shows" "LProofBench$Thing;") (by decide +kernel)) (fun _ h9 => h9) rfl dX5_init_176 ?_
  refine va_astq (r := (RX10, TX10, 2)) hx hb hK hP hD hS 8 5 10 10 rfl rfl rfl rfl (show vp_in (0) 20 from by unfold vp_in; decide) dX5_init_179 (fun H locs hP hD hS => ?_)
  obtain ⟨f_26, hP, hD⟩ : ∃ f9 : Nat → Option Nat, va_P (dC, dI) vwCl [(h0, .inr (5, [.ref a_n, .ref a_f, .ref a_l, .ref q_15, .ref q_1, .ref q_3, .ref q_5, .ref q_16, .ref q_7, .ref q_10, .int 0, .int 0, .ref q_13, .int 0, .int 0, .long 0, .int 0])), (q_1, .inl (cA_2, 300, .inr (.inr (.inr (.inr (fun _ => none)))))), (q_3, .inl (cA_4, 40, .inr (.inr (.inr (.inr (fun _ => none)))))), (q_5, .inl (cA_6, 4, .inr (.inr (.inr (.inr (f_25)))))), (q_7, .inr (6, [.ref q_8, .int 0])), (q_8, .inl (cA_9, 1210, .inl (fun _ => 0))), (q_10, .inr (6, [.ref q_11, .int 0])), (q_11, .inl (cA_12, 1210, .inl (fun _ => 0))), (q_13, .inl (cA_14, 20, .inr (.inr (.inr (.inr (f9)))))), (q_18, .inl (cA_19, 1, .inl (fun _ => 0))), (q_17, .inr (10, [.ref q_18, .int 0])), (q_20, .inl (cA_21, 0, .inr (.inr (.inr (.inr (fun _ => none)))))), (q_16, .inr (8, [.ref q_17, .ref q_20, .long 0, .int 0]))] H ∧ va_D A [(h0, .inr (5, [.ref a_n, .ref a_f, .ref a_l, .ref q_15, .ref q_1, .ref q_3, .ref q_5, .ref q_16, .ref q_7, .ref q_10, .int 0, .int 0, .ref q_13, .int 0, .int 0, .long 0, .int 0])), (q_1, .inl (cA_2, 300, .inr (.inr (.inr (.inr (fun _ => none)))))), (q_3, .inl (cA_4, 40, .inr (.inr (.inr (.inr (fun _ => none)))))), (q_5, .inl (cA_6, 4, .inr (.inr (.inr (.inr (f_25)))))), (q_7, .inr (6, [.ref q_8, .int 0])), (q_8, .inl (cA_9, 1210, .inl (fun _ => 0))), (q_10, .inr (6, [.ref q_11, .int 0])), (q_11, .inl (cA_12, 1210, .inl (fun _ => 0))), (q_13, .inl (cA_14, 20, .inr (.inr (.inr (.inr (f9)))))), (q_18, .inl (cA_19, 1, .inl (fun _ => 0))), (q_17, .inr (10, [.ref q_18, .int 0])), (q_20, .inl (cA_21, 0, .inr (.inr (.inr (.inr (fun _ => none)))))), (q_16, .inr (8, [.ref q_17, .ref q_20, .long 0, .int 0]))] := ⟨_, hP, hD⟩
  refine lv_iinc (v := 1) (lv' := [(4, .int 1), (0, .ref h0), (1, .ref a_n), (2, .ref a_f), (3, .ref a_l)]) hx hb dX5_init_180 hl (k := 0) rfl (by decide) (by decide) rfl (fun ls hl => ?_)
  refine lv_goto (tgt := 156) hx hb dX5_init_183 (by decide) ?_
  refine lv_iload hx hb dX5_init_156 (lv_at hl 0 rfl) ?_
  refine lv_aload_n hx hb dX5_init_158 rfl (lv_at hl 1 rfl) ?_
  refine va_get (D := (dC, dI)) (ci := 5) (v := .ref q_13) (C := RX5) (T := TX5) (N := 17) hx hb hts (by decide +kernel) hown hK hP 0 rfl rfl 12 (by decide) (hts (.fieldLink RX5 39 "ProofBench$Proof" "kept" "[LProofBench$Thing;") (by decide +kernel)) (fun _ h9 => h9) rfl dX5_init_159 ?_
  refine va_alen hx hb hK hP 8 5 rfl rfl (v := 20) (show Int32.ofNat 20 = 20 from by decide) dX5_init_162 ?_
  refine lv_icmp_ge (tgt := 186) hx hb dX5_init_163 (by decide) (fun c9 => absurd c9 (by decide)) (fun _ => ?_)
  refine lv_aload_n hx hb dX5_init_166 rfl (lv_at hl 1 rfl) ?_
  refine va_get (D := (dC, dI)) (ci := 5) (v := .ref q_13) (C := RX5) (T := TX5) (N := 17) hx hb hts (by decide +kernel) hown hK hP 0 rfl rfl 12 (by decide) (hts (.fieldLink RX5 39 "ProofBench$Proof" "kept" "[LProofBench$Thing;") (by decide +kernel)) (fun _ h9 => h9) rfl dX5_init_167 ?_
  refine lv_iload hx hb dX5_init_170 (lv_at hl 0 rfl) ?_
  refine lv_aload_n hx hb dX5_init_172 rfl (lv_at hl 1 rfl) ?_
  refine va_get (D := (dC, dI)) (ci := 5) (v := .ref q_16) (C := RX5) (T := TX5) (N := 17) hx hb hts (by decide +kernel) hown hK hP 0 rfl rfl 7 (by decide) (hts (.fieldLink RX5 70 "ProofBench$Proof" "nothing" "LProofBench$Step;") (by decide +kernel)) (fun _ h9 => h9) rfl dX5_init_173 ?_
  refine va_get (D := (dC, dI)) (ci := 8) (v := .ref q_17) (C := RX8) (T := TX8) (N := 4) hx hb hts (by decide +kernel) hown hK hP 12 rfl rfl 0 (by decide) (hts (.fieldLink RX5 74 "ProofBench$Step" "shows" "LProofBench$Thing;") (by decide +kernel)) (fun _ h9 => h9) rfl dX5_init_176 ?_
  refine va_astq (r := (RX10, TX10, 2)) hx hb hK hP hD hS 8 5 10 10 rfl rfl rfl rfl (show vp_in (1) 20 from by unfold vp_in; decide) dX5_init_179 (fun H locs hP hD hS => ?_)
  obtain ⟨f_27, hP, hD⟩ : ∃ f9 : Nat → Option Nat, va_P (dC, dI) vwCl [(h0, .inr (5, [.ref a_n, .ref a_f, .ref a_l, .ref q_15, .ref q_1, .ref q_3, .ref q_5, .ref q_16, .ref q_7, .ref q_10, .int 0, .int 0, .ref q_13, .int 0, .int 0, .long 0, .int 0])), (q_1, .inl (cA_2, 300, .inr (.inr (.inr (.inr (fun _ => none)))))), (q_3, .inl (cA_4, 40, .inr (.inr (.inr (.inr (fun _ => none)))))), (q_5, .inl (cA_6, 4, .inr (.inr (.inr (.inr (f_25)))))), (q_7, .inr (6, [.ref q_8, .int 0])), (q_8, .inl (cA_9, 1210, .inl (fun _ => 0))), (q_10, .inr (6, [.ref q_11, .int 0])), (q_11, .inl (cA_12, 1210, .inl (fun _ => 0))), (q_13, .inl (cA_14, 20, .inr (.inr (.inr (.inr (f9)))))), (q_18, .inl (cA_19, 1, .inl (fun _ => 0))), (q_17, .inr (10, [.ref q_18, .int 0])), (q_20, .inl (cA_21, 0, .inr (.inr (.inr (.inr (fun _ => none)))))), (q_16, .inr (8, [.ref q_17, .ref q_20, .long 0, .int 0]))] H ∧ va_D A [(h0, .inr (5, [.ref a_n, .ref a_f, .ref a_l, .ref q_15, .ref q_1, .ref q_3, .ref q_5, .ref q_16, .ref q_7, .ref q_10, .int 0, .int 0, .ref q_13, .int 0, .int 0, .long 0, .int 0])), (q_1, .inl (cA_2, 300, .inr (.inr (.inr (.inr (fun _ => none)))))), (q_3, .inl (cA_4, 40, .inr (.inr (.inr (.inr (fun _ => none)))))), (q_5, .inl (cA_6, 4, .inr (.inr (.inr (.inr (f_25)))))), (q_7, .inr (6, [.ref q_8, .int 0])), (q_8, .inl (cA_9, 1210, .inl (fun _ => 0))), (q_10, .inr (6, [.ref q_11, .int 0])), (q_11, .inl (cA_12, 1210, .inl (fun _ => 0))), (q_13, .inl (cA_14, 20, .inr (.inr (.inr (.inr (f9)))))), (q_18, .inl (cA_19, 1, .inl (fun _ => 0))), (q_17, .inr (10, [.ref q_18, .int 0])), (q_20, .inl (cA_21, 0, .inr (.inr (.inr (.inr (fun _ => none)))))), (q_16, .inr (8, [.ref q_17, .ref q_20, .long 0, .int 0]))] := ⟨_, hP, hD⟩
  refine lv_iinc (v := 2) (lv' := [(4, .int 2), (0, .ref h0), (1, .ref a_n), (2, .ref a_f), (3, .ref a_l)]) hx hb dX5_init_180 hl (k := 0) rfl (by decide) (by decide) rfl (fun ls hl => ?_)
  refine lv_goto (tgt := 156) hx hb dX5_init_183 (by decide) ?_
  refine lv_iload hx hb dX5_init_156 (lv_at hl 0 rfl) ?_
  refine lv_aload_n hx hb dX5_init_158 rfl (lv_at hl 1 rfl) ?_
  refine va_get (D := (dC, dI)) (ci := 5) (v := .ref q_13) (C := RX5) (T := TX5) (N := 17) hx hb hts (by decide +kernel) hown hK hP 0 rfl rfl 12 (by decide) (hts (.fieldLink RX5 39 "ProofBench$Proof" "kept" "[LProofBench$Thing;") (by decide +kernel)) (fun _ h9 => h9) rfl dX5_init_159 ?_
  refine va_alen hx hb hK hP 8 5 rfl rfl (v := 20) (show Int32.ofNat 20 = 20 from by decide) dX5_init_162 ?_
  refine lv_icmp_ge (tgt := 186) hx hb dX5_init_163 (by decide) (fun c9 => absurd c9 (by decide)) (fun _ => ?_)
  refine lv_aload_n hx hb dX5_init_166 rfl (lv_at hl 1 rfl) ?_
  refine va_get (D := (dC, dI)) (ci := 5) (v := .ref q_13) (C := RX5) (T := TX5) (N := 17) hx hb hts (by decide +kernel) hown hK hP 0 rfl rfl 12 (by decide) (hts (.fieldLink RX5 39 "ProofBench$Proof" "kept" "[LProofBench$Thing;") (by decide +kernel)) (fun _ h9 => h9) rfl dX5_init_167 ?_
  refine lv_iload hx hb dX5_init_170 (lv_at hl 0 rfl) ?_
  refine lv_aload_n hx hb dX5_init_172 rfl (lv_at hl 1 rfl) ?_
  refine va_get (D := (dC, dI)) (ci := 5) (v := .ref q_16) (C := RX5) (T := TX5) (N := 17) hx hb hts (by decide +kernel) hown hK hP 0 rfl rfl 7 (by decide) (hts (.fieldLink RX5 70 "ProofBench$Proof" "nothing" "LProofBench$Step;") (by decide +kernel)) (fun _ h9 => h9) rfl dX5_init_173 ?_
  refine va_get (D := (dC, dI)) (ci := 8) (v := .ref q_17) (C := RX8) (T := TX8) (N := 4) hx hb hts (by decide +kernel) hown hK hP 12 rfl rfl 0 (by decide) (hts (.fieldLink RX5 74 "ProofBench$Step" "shows" "LProofBench$Thing;") (by decide +kernel)) (fun _ h9 => h9) rfl dX5_init_176 ?_
  refine va_astq (r := (RX10, TX10, 2)) hx hb hK hP hD hS 8 5 10 10 rfl rfl rfl rfl (show vp_in (2) 20 from by unfold vp_in; decide) dX5_init_179 (fun H locs hP hD hS => ?_)
  obtain ⟨f_28, hP, hD⟩ : ∃ f9 : Nat → Option Nat, va_P (dC, dI) vwCl [(h0, .inr (5, [.ref a_n, .ref a_f, .ref a_l, .ref q_15, .ref q_1, .ref q_3, .ref q_5, .ref q_16, .ref q_7, .ref q_10, .int 0, .int 0, .ref q_13, .int 0, .int 0, .long 0, .int 0])), (q_1, .inl (cA_2, 300, .inr (.inr (.inr (.inr (fun _ => none)))))), (q_3, .inl (cA_4, 40, .inr (.inr (.inr (.inr (fun _ => none)))))), (q_5, .inl (cA_6, 4, .inr (.inr (.inr (.inr (f_25)))))), (q_7, .inr (6, [.ref q_8, .int 0])), (q_8, .inl (cA_9, 1210, .inl (fun _ => 0))), (q_10, .inr (6, [.ref q_11, .int 0])), (q_11, .inl (cA_12, 1210, .inl (fun _ => 0))), (q_13, .inl (cA_14, 20, .inr (.inr (.inr (.inr (f9)))))), (q_18, .inl (cA_19, 1, .inl (fun _ => 0))), (q_17, .inr (10, [.ref q_18, .int 0])), (q_20, .inl (cA_21, 0, .inr (.inr (.inr (.inr (fun _ => none)))))), (q_16, .inr (8, [.ref q_17, .ref q_20, .long 0, .int 0]))] H ∧ va_D A [(h0, .inr (5, [.ref a_n, .ref a_f, .ref a_l, .ref q_15, .ref q_1, .ref q_3, .ref q_5, .ref q_16, .ref q_7, .ref q_10, .int 0, .int 0, .ref q_13, .int 0, .int 0, .long 0, .int 0])), (q_1, .inl (cA_2, 300, .inr (.inr (.inr (.inr (fun _ => none)))))), (q_3, .inl (cA_4, 40, .inr (.inr (.inr (.inr (fun _ => none)))))), (q_5, .inl (cA_6, 4, .inr (.inr (.inr (.inr (f_25)))))), (q_7, .inr (6, [.ref q_8, .int 0])), (q_8, .inl (cA_9, 1210, .inl (fun _ => 0))), (q_10, .inr (6, [.ref q_11, .int 0])), (q_11, .inl (cA_12, 1210, .inl (fun _ => 0))), (q_13, .inl (cA_14, 20, .inr (.inr (.inr (.inr (f9)))))), (q_18, .inl (cA_19, 1, .inl (fun _ => 0))), (q_17, .inr (10, [.ref q_18, .int 0])), (q_20, .inl (cA_21, 0, .inr (.inr (.inr (.inr (fun _ => none)))))), (q_16, .inr (8, [.ref q_17, .ref q_20, .long 0, .int 0]))] := ⟨_, hP, hD⟩
  refine lv_iinc (v := 3) (lv' := [(4, .int 3), (0, .ref h0), (1, .ref a_n), (2, .ref a_f), (3, .ref a_l)]) hx hb dX5_init_180 hl (k := 0) rfl (by decide) (by decide) rfl (fun ls hl => ?_)
  refine lv_goto (tgt := 156) hx hb dX5_init_183 (by decide) ?_
  refine lv_iload hx hb dX5_init_156 (lv_at hl 0 rfl) ?_
  refine lv_aload_n hx hb dX5_init_158 rfl (lv_at hl 1 rfl) ?_
  refine va_get (D := (dC, dI)) (ci := 5) (v := .ref q_13) (C := RX5) (T := TX5) (N := 17) hx hb hts (by decide +kernel) hown hK hP 0 rfl rfl 12 (by decide) (hts (.fieldLink RX5 39 "ProofBench$Proof" "kept" "[LProofBench$Thing;") (by decide +kernel)) (fun _ h9 => h9) rfl dX5_init_159 ?_
  refine va_alen hx hb hK hP 8 5 rfl rfl (v := 20) (show Int32.ofNat 20 = 20 from by decide) dX5_init_162 ?_
  refine lv_icmp_ge (tgt := 186) hx hb dX5_init_163 (by decide) (fun c9 => absurd c9 (by decide)) (fun _ => ?_)
  refine lv_aload_n hx hb dX5_init_166 rfl (lv_at hl 1 rfl) ?_
  refine va_get (D := (dC, dI)) (ci := 5) (v := .ref q_13) (C := RX5) (T := TX5) (N := 17) hx hb hts (by decide +kernel) hown hK hP 0 rfl rfl 12 (by decide) (hts (.fieldLink RX5 39 "ProofBench$Proof" "kept" "[LProofBench$Thing;") (by decide +kernel)) (fun _ h9 => h9) rfl dX5_init_167 ?_
  refine lv_iload hx hb dX5_init_170 (lv_at hl 0 rfl) ?_
  refine lv_aload_n hx hb dX5_init_172 rfl (lv_at hl 1 rfl) ?_
  refine va_get (D := (dC, dI)) (ci := 5) (v := .ref q_16) (C := RX5) (T := TX5) (N := 17) hx hb hts (by decide +kernel) hown hK hP 0 rfl rfl 7 (by decide) (hts (.fieldLink RX5 70 "ProofBench$Proof" "nothing" "LProofBench$Step;") (by decide +kernel)) (fun _ h9 => h9) rfl dX5_init_173 ?_
  refine va_get (D := (dC, dI)) (ci := 8) (v := .ref q_17) (C := RX8) (T := TX8) (N := 4) hx hb hts (by decide +kernel) hown hK hP 12 rfl rfl 0 (by decide) (hts (.fieldLink RX5 74 "ProofBench$Step" "shows" "LProofBench$Thing;") (by decide +kernel)) (fun _ h9 => h9) rfl dX5_init_176 ?_
  refine va_astq (r := (RX10, TX10, 2)) hx hb hK hP hD hS 8 5 10 10 rfl rfl rfl rfl (show vp_in (3) 20 from by unfold vp_in; decide) dX5_init_179 (fun H locs hP hD hS => ?_)
  obtain ⟨f_29, hP, hD⟩ : ∃ f9 : Nat → Option Nat, va_P (dC, dI) vwCl [(h0, .inr (5, [.ref a_n, .ref a_f, .ref a_l, .ref q_15, .ref q_1, .ref q_3, .ref q_5, .ref q_16, .ref q_7, .ref q_10, .int 0, .int 0, .ref q_13, .int 0, .int 0, .long 0, .int 0])), (q_1, .inl (cA_2, 300, .inr (.inr (.inr (.inr (fun _ => none)))))), (q_3, .inl (cA_4, 40, .inr (.inr (.inr (.inr (fun _ => none)))))), (q_5, .inl (cA_6, 4, .inr (.inr (.inr (.inr (f_25)))))), (q_7, .inr (6, [.ref q_8, .int 0])), (q_8, .inl (cA_9, 1210, .inl (fun _ => 0))), (q_10, .inr (6, [.ref q_11, .int 0])), (q_11, .inl (cA_12, 1210, .inl (fun _ => 0))), (q_13, .inl (cA_14, 20, .inr (.inr (.inr (.inr (f9)))))), (q_18, .inl (cA_19, 1, .inl (fun _ => 0))), (q_17, .inr (10, [.ref q_18, .int 0])), (q_20, .inl (cA_21, 0, .inr (.inr (.inr (.inr (fun _ => none)))))), (q_16, .inr (8, [.ref q_17, .ref q_20, .long 0, .int 0]))] H ∧ va_D A [(h0, .inr (5, [.ref a_n, .ref a_f, .ref a_l, .ref q_15, .ref q_1, .ref q_3, .ref q_5, .ref q_16, .ref q_7, .ref q_10, .int 0, .int 0, .ref q_13, .int 0, .int 0, .long 0, .int 0])), (q_1, .inl (cA_2, 300, .inr (.inr (.inr (.inr (fun _ => none)))))), (q_3, .inl (cA_4, 40, .inr (.inr (.inr (.inr (fun _ => none)))))), (q_5, .inl (cA_6, 4, .inr (.inr (.inr (.inr (f_25)))))), (q_7, .inr (6, [.ref q_8, .int 0])), (q_8, .inl (cA_9, 1210, .inl (fun _ => 0))), (q_10, .inr (6, [.ref q_11, .int 0])), (q_11, .inl (cA_12, 1210, .inl (fun _ => 0))), (q_13, .inl (cA_14, 20, .inr (.inr (.inr (.inr (f9)))))), (q_18, .inl (cA_19, 1, .inl (fun _ => 0))), (q_17, .inr (10, [.ref q_18, .int 0])), (q_20, .inl (cA_21, 0, .inr (.inr (.inr (.inr (fun _ => none)))))), (q_16, .inr (8, [.ref q_17, .ref q_20, .long 0, .int 0]))] := ⟨_, hP, hD⟩
  refine lv_iinc (v := 4) (lv' := [(4, .int 4), (0, .ref h0), (1, .ref a_n), (2, .ref a_f), (3, .ref a_l)]) hx hb dX5_init_180 hl (k := 0) rfl (by decide) (by decide) rfl (fun ls hl => ?_)
  refine lv_goto (tgt := 156) hx hb dX5_init_183 (by decide) ?_
  refine lv_iload hx hb dX5_init_156 (lv_at hl 0 rfl) ?_
  refine lv_aload_n hx hb dX5_init_158 rfl (lv_at hl 1 rfl) ?_
  refine va_get (D := (dC, dI)) (ci := 5) (v := .ref q_13) (C := RX5) (T := TX5) (N := 17) hx hb hts (by decide +kernel) hown hK hP 0 rfl rfl 12 (by decide) (hts (.fieldLink RX5 39 "ProofBench$Proof" "kept" "[LProofBench$Thing;") (by decide +kernel)) (fun _ h9 => h9) rfl dX5_init_159 ?_
  refine va_alen hx hb hK hP 8 5 rfl rfl (v := 20) (show Int32.ofNat 20 = 20 from by decide) dX5_init_162 ?_
  refine lv_icmp_ge (tgt := 186) hx hb dX5_init_163 (by decide) (fun c9 => absurd c9 (by decide)) (fun _ => ?_)
  refine lv_aload_n hx hb dX5_init_166 rfl (lv_at hl 1 rfl) ?_
  refine va_get (D := (dC, dI)) (ci := 5) (v := .ref q_13) (C := RX5) (T := TX5) (N := 17) hx hb hts (by decide +kernel) hown hK hP 0 rfl rfl 12 (by decide) (hts (.fieldLink RX5 39 "ProofBench$Proof" "kept" "[LProofBench$Thing;") (by decide +kernel)) (fun _ h9 => h9) rfl dX5_init_167 ?_
  refine lv_iload hx hb dX5_init_170 (lv_at hl 0 rfl) ?_
  refine lv_aload_n hx hb dX5_init_172 rfl (lv_at hl 1 rfl) ?_
  refine va_get (D := (dC, dI)) (ci := 5) (v := .ref q_16) (C := RX5) (T := TX5) (N := 17) hx hb hts (by decide +kernel) hown hK hP 0 rfl rfl 7 (by decide) (hts (.fieldLink RX5 70 "ProofBench$Proof" "nothing" "LProofBench$Step;") (by decide +kernel)) (fun _ h9 => h9) rfl dX5_init_173 ?_
  refine va_get (D := (dC, dI)) (ci := 8) (v := .ref q_17) (C := RX8) (T := TX8) (N := 4) hx hb hts (by decide +kernel) hown hK hP 12 rfl rfl 0 (by decide) (hts (.fieldLink RX5 74 "ProofBench$Step" "shows" "LProofBench$Thing;") (by decide +kernel)) (fun _ h9 => h9) rfl dX5_init_176 ?_
  refine va_astq (r := (RX10, TX10, 2)) hx hb hK hP hD hS 8 5 10 10 rfl rfl rfl rfl (show vp_in (4) 20 from by unfold vp_in; decide) dX5_init_179 (fun H locs hP hD hS => ?_)
  obtain ⟨f_30, hP, hD⟩ : ∃ f9 : Nat → Option Nat, va_P (dC, dI) vwCl [(h0, .inr (5, [.ref a_n, .ref a_f, .ref a_l, .ref q_15, .ref q_1, .ref q_3, .ref q_5, .ref q_16, .ref q_7, .ref q_10, .int 0, .int 0, .ref q_13, .int 0, .int 0, .long 0, .int 0])), (q_1, .inl (cA_2, 300, .inr (.inr (.inr (.inr (fun _ => none)))))), (q_3, .inl (cA_4, 40, .inr (.inr (.inr (.inr (fun _ => none)))))), (q_5, .inl (cA_6, 4, .inr (.inr (.inr (.inr (f_25)))))), (q_7, .inr (6, [.ref q_8, .int 0])), (q_8, .inl (cA_9, 1210, .inl (fun _ => 0))), (q_10, .inr (6, [.ref q_11, .int 0])), (q_11, .inl (cA_12, 1210, .inl (fun _ => 0))), (q_13, .inl (cA_14, 20, .inr (.inr (.inr (.inr (f9)))))), (q_18, .inl (cA_19, 1, .inl (fun _ => 0))), (q_17, .inr (10, [.ref q_18, .int 0])), (q_20, .inl (cA_21, 0, .inr (.inr (.inr (.inr (fun _ => none)))))), (q_16, .inr (8, [.ref q_17, .ref q_20, .long 0, .int 0]))] H ∧ va_D A [(h0, .inr (5, [.ref a_n, .ref a_f, .ref a_l, .ref q_15, .ref q_1, .ref q_3, .ref q_5, .ref q_16, .ref q_7, .ref q_10, .int 0, .int 0, .ref q_13, .int 0, .int 0, .long 0, .int 0])), (q_1, .inl (cA_2, 300, .inr (.inr (.inr (.inr (fun _ => none)))))), (q_3, .inl (cA_4, 40, .inr (.inr (.inr (.inr (fun _ => none)))))), (q_5, .inl (cA_6, 4, .inr (.inr (.inr (.inr (f_25)))))), (q_7, .inr (6, [.ref q_8, .int 0])), (q_8, .inl (cA_9, 1210, .inl (fun _ => 0))), (q_10, .inr (6, [.ref q_11, .int 0])), (q_11, .inl (cA_12, 1210, .inl (fun _ => 0))), (q_13, .inl (cA_14, 20, .inr (.inr (.inr (.inr (f9)))))), (q_18, .inl (cA_19, 1, .inl (fun _ => 0))), (q_17, .inr (10, [.ref q_18, .int 0])), (q_20, .inl (cA_21, 0, .inr (.inr (.inr (.inr (fun _ => none)))))), (q_16, .inr (8, [.ref q_17, .ref q_20, .long 0, .int 0]))] := ⟨_, hP, hD⟩
  refine lv_iinc (v := 5) (lv' := [(4, .int 5), (0, .ref h0), (1, .ref a_n), (2, .ref a_f), (3, .ref a_l)]) hx hb dX5_init_180 hl (k := 0) rfl (by decide) (by decide) rfl (fun ls hl => ?_)
  refine lv_goto (tgt := 156) hx hb dX5_init_183 (by decide) ?_
  refine lv_iload hx hb dX5_init_156 (lv_at hl 0 rfl) ?_
  refine lv_aload_n hx hb dX5_init_158 rfl (lv_at hl 1 rfl) ?_
  refine va_get (D := (dC, dI)) (ci := 5) (v := .ref q_13) (C := RX5) (T := TX5) (N := 17) hx hb hts (by decide +kernel) hown hK hP 0 rfl rfl 12 (by decide) (hts (.fieldLink RX5 39 "ProofBench$Proof" "kept" "[LProofBench$Thing;") (by decide +kernel)) (fun _ h9 => h9) rfl dX5_init_159 ?_
  refine va_alen hx hb hK hP 8 5 rfl rfl (v := 20) (show Int32.ofNat 20 = 20 from by decide) dX5_init_162 ?_
  refine lv_icmp_ge (tgt := 186) hx hb dX5_init_163 (by decide) (fun c9 => absurd c9 (by decide)) (fun _ => ?_)
  refine lv_aload_n hx hb dX5_init_166 rfl (lv_at hl 1 rfl) ?_
  refine va_get (D := (dC, dI)) (ci := 5) (v := .ref q_13) (C := RX5) (T := TX5) (N := 17) hx hb hts (by decide +kernel) hown hK hP 0 rfl rfl 12 (by decide) (hts (.fieldLink RX5 39 "ProofBench$Proof" "kept" "[LProofBench$Thing;") (by decide +kernel)) (fun _ h9 => h9) rfl dX5_init_167 ?_
  refine lv_iload hx hb dX5_init_170 (lv_at hl 0 rfl) ?_
  refine lv_aload_n hx hb dX5_init_172 rfl (lv_at hl 1 rfl) ?_
  refine va_get (D := (dC, dI)) (ci := 5) (v := .ref q_16) (C := RX5) (T := TX5) (N := 17) hx hb hts (by decide +kernel) hown hK hP 0 rfl rfl 7 (by decide) (hts (.fieldLink RX5 70 "ProofBench$Proof" "nothing" "LProofBench$Step;") (by decide +kernel)) (fun _ h9 => h9) rfl dX5_init_173 ?_
  refine va_get (D := (dC, dI)) (ci := 8) (v := .ref q_17) (C := RX8) (T := TX8) (N := 4) hx hb hts (by decide +kernel) hown hK hP 12 rfl rfl 0 (by decide) (hts (.fieldLink RX5 74 "ProofBench$Step" "shows" "LProofBench$Thing;") (by decide +kernel)) (fun _ h9 => h9) rfl dX5_init_176 ?_
  refine va_astq (r := (RX10, TX10, 2)) hx hb hK hP hD hS 8 5 10 10 rfl rfl rfl rfl (show vp_in (5) 20 from by unfold vp_in; decide) dX5_init_179 (fun H locs hP hD hS => ?_)
  obtain ⟨f_31, hP, hD⟩ : ∃ f9 : Nat → Option Nat, va_P (dC, dI) vwCl [(h0, .inr (5, [.ref a_n, .ref a_f, .ref a_l, .ref q_15, .ref q_1, .ref q_3, .ref q_5, .ref q_16, .ref q_7, .ref q_10, .int 0, .int 0, .ref q_13, .int 0, .int 0, .long 0, .int 0])), (q_1, .inl (cA_2, 300, .inr (.inr (.inr (.inr (fun _ => none)))))), (q_3, .inl (cA_4, 40, .inr (.inr (.inr (.inr (fun _ => none)))))), (q_5, .inl (cA_6, 4, .inr (.inr (.inr (.inr (f_25)))))), (q_7, .inr (6, [.ref q_8, .int 0])), (q_8, .inl (cA_9, 1210, .inl (fun _ => 0))), (q_10, .inr (6, [.ref q_11, .int 0])), (q_11, .inl (cA_12, 1210, .inl (fun _ => 0))), (q_13, .inl (cA_14, 20, .inr (.inr (.inr (.inr (f9)))))), (q_18, .inl (cA_19, 1, .inl (fun _ => 0))), (q_17, .inr (10, [.ref q_18, .int 0])), (q_20, .inl (cA_21, 0, .inr (.inr (.inr (.inr (fun _ => none)))))), (q_16, .inr (8, [.ref q_17, .ref q_20, .long 0, .int 0]))] H ∧ va_D A [(h0, .inr (5, [.ref a_n, .ref a_f, .ref a_l, .ref q_15, .ref q_1, .ref q_3, .ref q_5, .ref q_16, .ref q_7, .ref q_10, .int 0, .int 0, .ref q_13, .int 0, .int 0, .long 0, .int 0])), (q_1, .inl (cA_2, 300, .inr (.inr (.inr (.inr (fun _ => none)))))), (q_3, .inl (cA_4, 40, .inr (.inr (.inr (.inr (fun _ => none)))))), (q_5, .inl (cA_6, 4, .inr (.inr (.inr (.inr (f_25)))))), (q_7, .inr (6, [.ref q_8, .int 0])), (q_8, .inl (cA_9, 1210, .inl (fun _ => 0))), (q_10, .inr (6, [.ref q_11, .int 0])), (q_11, .inl (cA_12, 1210, .inl (fun _ => 0))), (q_13, .inl (cA_14, 20, .inr (.inr (.inr (.inr (f9)))))), (q_18, .inl (cA_19, 1, .inl (fun _ => 0))), (q_17, .inr (10, [.ref q_18, .int 0])), (q_20, .inl (cA_21, 0, .inr (.inr (.inr (.inr (fun _ => none)))))), (q_16, .inr (8, [.ref q_17, .ref q_20, .long 0, .int 0]))] := ⟨_, hP, hD⟩
  refine lv_iinc (v := 6) (lv' := [(4, .int 6), (0, .ref h0), (1, .ref a_n), (2, .ref a_f), (3, .ref a_l)]) hx hb dX5_init_180 hl (k := 0) rfl (by decide) (by decide) rfl (fun ls hl => ?_)
  refine lv_goto (tgt := 156) hx hb dX5_init_183 (by decide) ?_
  refine lv_iload hx hb dX5_init_156 (lv_at hl 0 rfl) ?_
  refine lv_aload_n hx hb dX5_init_158 rfl (lv_at hl 1 rfl) ?_
  refine va_get (D := (dC, dI)) (ci := 5) (v := .ref q_13) (C := RX5) (T := TX5) (N := 17) hx hb hts (by decide +kernel) hown hK hP 0 rfl rfl 12 (by decide) (hts (.fieldLink RX5 39 "ProofBench$Proof" "kept" "[LProofBench$Thing;") (by decide +kernel)) (fun _ h9 => h9) rfl dX5_init_159 ?_
  refine va_alen hx hb hK hP 8 5 rfl rfl (v := 20) (show Int32.ofNat 20 = 20 from by decide) dX5_init_162 ?_
  refine lv_icmp_ge (tgt := 186) hx hb dX5_init_163 (by decide) (fun c9 => absurd c9 (by decide)) (fun _ => ?_)
  refine lv_aload_n hx hb dX5_init_166 rfl (lv_at hl 1 rfl) ?_
  refine va_get (D := (dC, dI)) (ci := 5) (v := .ref q_13) (C := RX5) (T := TX5) (N := 17) hx hb hts (by decide +kernel) hown hK hP 0 rfl rfl 12 (by decide) (hts (.fieldLink RX5 39 "ProofBench$Proof" "kept" "[LProofBench$Thing;") (by decide +kernel)) (fun _ h9 => h9) rfl dX5_init_167 ?_
  refine lv_iload hx hb dX5_init_170 (lv_at hl 0 rfl) ?_
  refine lv_aload_n hx hb dX5_init_172 rfl (lv_at hl 1 rfl) ?_
  refine va_get (D := (dC, dI)) (ci := 5) (v := .ref q_16) (C := RX5) (T := TX5) (N := 17) hx hb hts (by decide +kernel) hown hK hP 0 rfl rfl 7 (by decide) (hts (.fieldLink RX5 70 "ProofBench$Proof" "nothing" "LProofBench$Step;") (by decide +kernel)) (fun _ h9 => h9) rfl dX5_init_173 ?_
  refine va_get (D := (dC, dI)) (ci := 8) (v := .ref q_17) (C := RX8) (T := TX8) (N := 4) hx hb hts (by decide +kernel) hown hK hP 12 rfl rfl 0 (by decide) (hts (.fieldLink RX5 74 "ProofBench$Step" "shows" "LProofBench$Thing;") (by decide +kernel)) (fun _ h9 => h9) rfl dX5_init_176 ?_
  refine va_astq (r := (RX10, TX10, 2)) hx hb hK hP hD hS 8 5 10 10 rfl rfl rfl rfl (show vp_in (6) 20 from by unfold vp_in; decide) dX5_init_179 (fun H locs hP hD hS => ?_)
  obtain ⟨f_32, hP, hD⟩ : ∃ f9 : Nat → Option Nat, va_P (dC, dI) vwCl [(h0, .inr (5, [.ref a_n, .ref a_f, .ref a_l, .ref q_15, .ref q_1, .ref q_3, .ref q_5, .ref q_16, .ref q_7, .ref q_10, .int 0, .int 0, .ref q_13, .int 0, .int 0, .long 0, .int 0])), (q_1, .inl (cA_2, 300, .inr (.inr (.inr (.inr (fun _ => none)))))), (q_3, .inl (cA_4, 40, .inr (.inr (.inr (.inr (fun _ => none)))))), (q_5, .inl (cA_6, 4, .inr (.inr (.inr (.inr (f_25)))))), (q_7, .inr (6, [.ref q_8, .int 0])), (q_8, .inl (cA_9, 1210, .inl (fun _ => 0))), (q_10, .inr (6, [.ref q_11, .int 0])), (q_11, .inl (cA_12, 1210, .inl (fun _ => 0))), (q_13, .inl (cA_14, 20, .inr (.inr (.inr (.inr (f9)))))), (q_18, .inl (cA_19, 1, .inl (fun _ => 0))), (q_17, .inr (10, [.ref q_18, .int 0])), (q_20, .inl (cA_21, 0, .inr (.inr (.inr (.inr (fun _ => none)))))), (q_16, .inr (8, [.ref q_17, .ref q_20, .long 0, .int 0]))] H ∧ va_D A [(h0, .inr (5, [.ref a_n, .ref a_f, .ref a_l, .ref q_15, .ref q_1, .ref q_3, .ref q_5, .ref q_16, .ref q_7, .ref q_10, .int 0, .int 0, .ref q_13, .int 0, .int 0, .long 0, .int 0])), (q_1, .inl (cA_2, 300, .inr (.inr (.inr (.inr (fun _ => none)))))), (q_3, .inl (cA_4, 40, .inr (.inr (.inr (.inr (fun _ => none)))))), (q_5, .inl (cA_6, 4, .inr (.inr (.inr (.inr (f_25)))))), (q_7, .inr (6, [.ref q_8, .int 0])), (q_8, .inl (cA_9, 1210, .inl (fun _ => 0))), (q_10, .inr (6, [.ref q_11, .int 0])), (q_11, .inl (cA_12, 1210, .inl (fun _ => 0))), (q_13, .inl (cA_14, 20, .inr (.inr (.inr (.inr (f9)))))), (q_18, .inl (cA_19, 1, .inl (fun _ => 0))), (q_17, .inr (10, [.ref q_18, .int 0])), (q_20, .inl (cA_21, 0, .inr (.inr (.inr (.inr (fun _ => none)))))), (q_16, .inr (8, [.ref q_17, .ref q_20, .long 0, .int 0]))] := ⟨_, hP, hD⟩
  refine lv_iinc (v := 7) (lv' := [(4, .int 7), (0, .ref h0), (1, .ref a_n), (2, .ref a_f), (3, .ref a_l)]) hx hb dX5_init_180 hl (k := 0) rfl (by decide) (by decide) rfl (fun ls hl => ?_)
  refine lv_goto (tgt := 156) hx hb dX5_init_183 (by decide) ?_
  refine lv_iload hx hb dX5_init_156 (lv_at hl 0 rfl) ?_
  refine lv_aload_n hx hb dX5_init_158 rfl (lv_at hl 1 rfl) ?_
  refine va_get (D := (dC, dI)) (ci := 5) (v := .ref q_13) (C := RX5) (T := TX5) (N := 17) hx hb hts (by decide +kernel) hown hK hP 0 rfl rfl 12 (by decide) (hts (.fieldLink RX5 39 "ProofBench$Proof" "kept" "[LProofBench$Thing;") (by decide +kernel)) (fun _ h9 => h9) rfl dX5_init_159 ?_
  refine va_alen hx hb hK hP 8 5 rfl rfl (v := 20) (show Int32.ofNat 20 = 20 from by decide) dX5_init_162 ?_
  refine lv_icmp_ge (tgt := 186) hx hb dX5_init_163 (by decide) (fun c9 => absurd c9 (by decide)) (fun _ => ?_)
  refine lv_aload_n hx hb dX5_init_166 rfl (lv_at hl 1 rfl) ?_
  refine va_get (D := (dC, dI)) (ci := 5) (v := .ref q_13) (C := RX5) (T := TX5) (N := 17) hx hb hts (by decide +kernel) hown hK hP 0 rfl rfl 12 (by decide) (hts (.fieldLink RX5 39 "ProofBench$Proof" "kept" "[LProofBench$Thing;") (by decide +kernel)) (fun _ h9 => h9) rfl dX5_init_167 ?_
  refine lv_iload hx hb dX5_init_170 (lv_at hl 0 rfl) ?_
  refine lv_aload_n hx hb dX5_init_172 rfl (lv_at hl 1 rfl) ?_
  refine va_get (D := (dC, dI)) (ci := 5) (v := .ref q_16) (C := RX5) (T := TX5) (N := 17) hx hb hts (by decide +kernel) hown hK hP 0 rfl rfl 7 (by decide) (hts (.fieldLink RX5 70 "ProofBench$Proof" "nothing" "LProofBench$Step;") (by decide +kernel)) (fun _ h9 => h9) rfl dX5_init_173 ?_
  refine va_get (D := (dC, dI)) (ci := 8) (v := .ref q_17) (C := RX8) (T := TX8) (N := 4) hx hb hts (by decide +kernel) hown hK hP 12 rfl rfl 0 (by decide) (hts (.fieldLink RX5 74 "ProofBench$Step" "shows" "LProofBench$Thing;") (by decide +kernel)) (fun _ h9 => h9) rfl dX5_init_176 ?_
  refine va_astq (r := (RX10, TX10, 2)) hx hb hK hP hD hS 8 5 10 10 rfl rfl rfl rfl (show vp_in (7) 20 from by unfold vp_in; decide) dX5_init_179 (fun H locs hP hD hS => ?_)
  obtain ⟨f_33, hP, hD⟩ : ∃ f9 : Nat → Option Nat, va_P (dC, dI) vwCl [(h0, .inr (5, [.ref a_n, .ref a_f, .ref a_l, .ref q_15, .ref q_1, .ref q_3, .ref q_5, .ref q_16, .ref q_7, .ref q_10, .int 0, .int 0, .ref q_13, .int 0, .int 0, .long 0, .int 0])), (q_1, .inl (cA_2, 300, .inr (.inr (.inr (.inr (fun _ => none)))))), (q_3, .inl (cA_4, 40, .inr (.inr (.inr (.inr (fun _ => none)))))), (q_5, .inl (cA_6, 4, .inr (.inr (.inr (.inr (f_25)))))), (q_7, .inr (6, [.ref q_8, .int 0])), (q_8, .inl (cA_9, 1210, .inl (fun _ => 0))), (q_10, .inr (6, [.ref q_11, .int 0])), (q_11, .inl (cA_12, 1210, .inl (fun _ => 0))), (q_13, .inl (cA_14, 20, .inr (.inr (.inr (.inr (f9)))))), (q_18, .inl (cA_19, 1, .inl (fun _ => 0))), (q_17, .inr (10, [.ref q_18, .int 0])), (q_20, .inl (cA_21, 0, .inr (.inr (.inr (.inr (fun _ => none)))))), (q_16, .inr (8, [.ref q_17, .ref q_20, .long 0, .int 0]))] H ∧ va_D A [(h0, .inr (5, [.ref a_n, .ref a_f, .ref a_l, .ref q_15, .ref q_1, .ref q_3, .ref q_5, .ref q_16, .ref q_7, .ref q_10, .int 0, .int 0, .ref q_13, .int 0, .int 0, .long 0, .int 0])), (q_1, .inl (cA_2, 300, .inr (.inr (.inr (.inr (fun _ => none)))))), (q_3, .inl (cA_4, 40, .inr (.inr (.inr (.inr (fun _ => none)))))), (q_5, .inl (cA_6, 4, .inr (.inr (.inr (.inr (f_25)))))), (q_7, .inr (6, [.ref q_8, .int 0])), (q_8, .inl (cA_9, 1210, .inl (fun _ => 0))), (q_10, .inr (6, [.ref q_11, .int 0])), (q_11, .inl (cA_12, 1210, .inl (fun _ => 0))), (q_13, .inl (cA_14, 20, .inr (.inr (.inr (.inr (f9)))))), (q_18, .inl (cA_19, 1, .inl (fun _ => 0))), (q_17, .inr (10, [.ref q_18, .int 0])), (q_20, .inl (cA_21, 0, .inr (.inr (.inr (.inr (fun _ => none)))))), (q_16, .inr (8, [.ref q_17, .ref q_20, .long 0, .int 0]))] := ⟨_, hP, hD⟩
  refine lv_iinc (v := 8) (lv' := [(4, .int 8), (0, .ref h0), (1, .ref a_n), (2, .ref a_f), (3, .ref a_l)]) hx hb dX5_init_180 hl (k := 0) rfl (by decide) (by decide) rfl (fun ls hl => ?_)
  refine lv_goto (tgt := 156) hx hb dX5_init_183 (by decide) ?_
  refine lv_iload hx hb dX5_init_156 (lv_at hl 0 rfl) ?_
  refine lv_aload_n hx hb dX5_init_158 rfl (lv_at hl 1 rfl) ?_
  refine va_get (D := (dC, dI)) (ci := 5) (v := .ref q_13) (C := RX5) (T := TX5) (N := 17) hx hb hts (by decide +kernel) hown hK hP 0 rfl rfl 12 (by decide) (hts (.fieldLink RX5 39 "ProofBench$Proof" "kept" "[LProofBench$Thing;") (by decide +kernel)) (fun _ h9 => h9) rfl dX5_init_159 ?_
  refine va_alen hx hb hK hP 8 5 rfl rfl (v := 20) (show Int32.ofNat 20 = 20 from by decide) dX5_init_162 ?_
  refine lv_icmp_ge (tgt := 186) hx hb dX5_init_163 (by decide) (fun c9 => absurd c9 (by decide)) (fun _ => ?_)
  refine lv_aload_n hx hb dX5_init_166 rfl (lv_at hl 1 rfl) ?_
  refine va_get (D := (dC, dI)) (ci := 5) (v := .ref q_13) (C := RX5) (T := TX5) (N := 17) hx hb hts (by decide +kernel) hown hK hP 0 rfl rfl 12 (by decide) (hts (.fieldLink RX5 39 "ProofBench$Proof" "kept" "[LProofBench$Thing;") (by decide +kernel)) (fun _ h9 => h9) rfl dX5_init_167 ?_
  refine lv_iload hx hb dX5_init_170 (lv_at hl 0 rfl) ?_
  refine lv_aload_n hx hb dX5_init_172 rfl (lv_at hl 1 rfl) ?_
  refine va_get (D := (dC, dI)) (ci := 5) (v := .ref q_16) (C := RX5) (T := TX5) (N := 17) hx hb hts (by decide +kernel) hown hK hP 0 rfl rfl 7 (by decide) (hts (.fieldLink RX5 70 "ProofBench$Proof" "nothing" "LProofBench$Step;") (by decide +kernel)) (fun _ h9 => h9) rfl dX5_init_173 ?_
  refine va_get (D := (dC, dI)) (ci := 8) (v := .ref q_17) (C := RX8) (T := TX8) (N := 4) hx hb hts (by decide +kernel) hown hK hP 12 rfl rfl 0 (by decide) (hts (.fieldLink RX5 74 "ProofBench$Step" "shows" "LProofBench$Thing;") (by decide +kernel)) (fun _ h9 => h9) rfl dX5_init_176 ?_
  refine va_astq (r := (RX10, TX10, 2)) hx hb hK hP hD hS 8 5 10 10 rfl rfl rfl rfl (show vp_in (8) 20 from by unfold vp_in; decide) dX5_init_179 (fun H locs hP hD hS => ?_)
  obtain ⟨f_34, hP, hD⟩ : ∃ f9 : Nat → Option Nat, va_P (dC, dI) vwCl [(h0, .inr (5, [.ref a_n, .ref a_f, .ref a_l, .ref q_15, .ref q_1, .ref q_3, .ref q_5, .ref q_16, .ref q_7, .ref q_10, .int 0, .int 0, .ref q_13, .int 0, .int 0, .long 0, .int 0])), (q_1, .inl (cA_2, 300, .inr (.inr (.inr (.inr (fun _ => none)))))), (q_3, .inl (cA_4, 40, .inr (.inr (.inr (.inr (fun _ => none)))))), (q_5, .inl (cA_6, 4, .inr (.inr (.inr (.inr (f_25)))))), (q_7, .inr (6, [.ref q_8, .int 0])), (q_8, .inl (cA_9, 1210, .inl (fun _ => 0))), (q_10, .inr (6, [.ref q_11, .int 0])), (q_11, .inl (cA_12, 1210, .inl (fun _ => 0))), (q_13, .inl (cA_14, 20, .inr (.inr (.inr (.inr (f9)))))), (q_18, .inl (cA_19, 1, .inl (fun _ => 0))), (q_17, .inr (10, [.ref q_18, .int 0])), (q_20, .inl (cA_21, 0, .inr (.inr (.inr (.inr (fun _ => none)))))), (q_16, .inr (8, [.ref q_17, .ref q_20, .long 0, .int 0]))] H ∧ va_D A [(h0, .inr (5, [.ref a_n, .ref a_f, .ref a_l, .ref q_15, .ref q_1, .ref q_3, .ref q_5, .ref q_16, .ref q_7, .ref q_10, .int 0, .int 0, .ref q_13, .int 0, .int 0, .long 0, .int 0])), (q_1, .inl (cA_2, 300, .inr (.inr (.inr (.inr (fun _ => none)))))), (q_3, .inl (cA_4, 40, .inr (.inr (.inr (.inr (fun _ => none)))))), (q_5, .inl (cA_6, 4, .inr (.inr (.inr (.inr (f_25)))))), (q_7, .inr (6, [.ref q_8, .int 0])), (q_8, .inl (cA_9, 1210, .inl (fun _ => 0))), (q_10, .inr (6, [.ref q_11, .int 0])), (q_11, .inl (cA_12, 1210, .inl (fun _ => 0))), (q_13, .inl (cA_14, 20, .inr (.inr (.inr (.inr (f9)))))), (q_18, .inl (cA_19, 1, .inl (fun _ => 0))), (q_17, .inr (10, [.ref q_18, .int 0])), (q_20, .inl (cA_21, 0, .inr (.inr (.inr (.inr (fun _ => none)))))), (q_16, .inr (8, [.ref q_17, .ref q_20, .long 0, .int 0]))] := ⟨_, hP, hD⟩
  refine lv_iinc (v := 9) (lv' := [(4, .int 9), (0, .ref h0), (1, .ref a_n), (2, .ref a_f), (3, .ref a_l)]) hx hb dX5_init_180 hl (k := 0) rfl (by decide) (by decide) rfl (fun ls hl => ?_)
  refine lv_goto (tgt := 156) hx hb dX5_init_183 (by decide) ?_
  refine lv_iload hx hb dX5_init_156 (lv_at hl 0 rfl) ?_
  refine lv_aload_n hx hb dX5_init_158 rfl (lv_at hl 1 rfl) ?_
  refine va_get (D := (dC, dI)) (ci := 5) (v := .ref q_13) (C := RX5) (T := TX5) (N := 17) hx hb hts (by decide +kernel) hown hK hP 0 rfl rfl 12 (by decide) (hts (.fieldLink RX5 39 "ProofBench$Proof" "kept" "[LProofBench$Thing;") (by decide +kernel)) (fun _ h9 => h9) rfl dX5_init_159 ?_
  refine va_alen hx hb hK hP 8 5 rfl rfl (v := 20) (show Int32.ofNat 20 = 20 from by decide) dX5_init_162 ?_
  refine lv_icmp_ge (tgt := 186) hx hb dX5_init_163 (by decide) (fun c9 => absurd c9 (by decide)) (fun _ => ?_)
  refine lv_aload_n hx hb dX5_init_166 rfl (lv_at hl 1 rfl) ?_
  refine va_get (D := (dC, dI)) (ci := 5) (v := .ref q_13) (C := RX5) (T := TX5) (N := 17) hx hb hts (by decide +kernel) hown hK hP 0 rfl rfl 12 (by decide) (hts (.fieldLink RX5 39 "ProofBench$Proof" "kept" "[LProofBench$Thing;") (by decide +kernel)) (fun _ h9 => h9) rfl dX5_init_167 ?_
  refine lv_iload hx hb dX5_init_170 (lv_at hl 0 rfl) ?_
  refine lv_aload_n hx hb dX5_init_172 rfl (lv_at hl 1 rfl) ?_
  refine va_get (D := (dC, dI)) (ci := 5) (v := .ref q_16) (C := RX5) (T := TX5) (N := 17) hx hb hts (by decide +kernel) hown hK hP 0 rfl rfl 7 (by decide) (hts (.fieldLink RX5 70 "ProofBench$Proof" "nothing" "LProofBench$Step;") (by decide +kernel)) (fun _ h9 => h9) rfl dX5_init_173 ?_
  refine va_get (D := (dC, dI)) (ci := 8) (v := .ref q_17) (C := RX8) (T := TX8) (N := 4) hx hb hts (by decide +kernel) hown hK hP 12 rfl rfl 0 (by decide) (hts (.fieldLink RX5 74 "ProofBench$Step" "shows" "LProofBench$Thing;") (by decide +kernel)) (fun _ h9 => h9) rfl dX5_init_176 ?_
  refine va_astq (r := (RX10, TX10, 2)) hx hb hK hP hD hS 8 5 10 10 rfl rfl rfl rfl (show vp_in (9) 20 from by unfold vp_in; decide) dX5_init_179 (fun H locs hP hD hS => ?_)
  obtain ⟨f_35, hP, hD⟩ : ∃ f9 : Nat → Option Nat, va_P (dC, dI) vwCl [(h0, .inr (5, [.ref a_n, .ref a_f, .ref a_l, .ref q_15, .ref q_1, .ref q_3, .ref q_5, .ref q_16, .ref q_7, .ref q_10, .int 0, .int 0, .ref q_13, .int 0, .int 0, .long 0, .int 0])), (q_1, .inl (cA_2, 300, .inr (.inr (.inr (.inr (fun _ => none)))))), (q_3, .inl (cA_4, 40, .inr (.inr (.inr (.inr (fun _ => none)))))), (q_5, .inl (cA_6, 4, .inr (.inr (.inr (.inr (f_25)))))), (q_7, .inr (6, [.ref q_8, .int 0])), (q_8, .inl (cA_9, 1210, .inl (fun _ => 0))), (q_10, .inr (6, [.ref q_11, .int 0])), (q_11, .inl (cA_12, 1210, .inl (fun _ => 0))), (q_13, .inl (cA_14, 20, .inr (.inr (.inr (.inr (f9)))))), (q_18, .inl (cA_19, 1, .inl (fun _ => 0))), (q_17, .inr (10, [.ref q_18, .int 0])), (q_20, .inl (cA_21, 0, .inr (.inr (.inr (.inr (fun _ => none)))))), (q_16, .inr (8, [.ref q_17, .ref q_20, .long 0, .int 0]))] H ∧ va_D A [(h0, .inr (5, [.ref a_n, .ref a_f, .ref a_l, .ref q_15, .ref q_1, .ref q_3, .ref q_5, .ref q_16, .ref q_7, .ref q_10, .int 0, .int 0, .ref q_13, .int 0, .int 0, .long 0, .int 0])), (q_1, .inl (cA_2, 300, .inr (.inr (.inr (.inr (fun _ => none)))))), (q_3, .inl (cA_4, 40, .inr (.inr (.inr (.inr (fun _ => none)))))), (q_5, .inl (cA_6, 4, .inr (.inr (.inr (.inr (f_25)))))), (q_7, .inr (6, [.ref q_8, .int 0])), (q_8, .inl (cA_9, 1210, .inl (fun _ => 0))), (q_10, .inr (6, [.ref q_11, .int 0])), (q_11, .inl (cA_12, 1210, .inl (fun _ => 0))), (q_13, .inl (cA_14, 20, .inr (.inr (.inr (.inr (f9)))))), (q_18, .inl (cA_19, 1, .inl (fun _ => 0))), (q_17, .inr (10, [.ref q_18, .int 0])), (q_20, .inl (cA_21, 0, .inr (.inr (.inr (.inr (fun _ => none)))))), (q_16, .inr (8, [.ref q_17, .ref q_20, .long 0, .int 0]))] := ⟨_, hP, hD⟩
  refine lv_iinc (v := 10) (lv' := [(4, .int 10), (0, .ref h0), (1, .ref a_n), (2, .ref a_f), (3, .ref a_l)]) hx hb dX5_init_180 hl (k := 0) rfl (by decide) (by decide) rfl (fun ls hl => ?_)
  refine lv_goto (tgt := 156) hx hb dX5_init_183 (by decide) ?_
  refine lv_iload hx hb dX5_init_156 (lv_at hl 0 rfl) ?_
  refine lv_aload_n hx hb dX5_init_158 rfl (lv_at hl 1 rfl) ?_
  refine va_get (D := (dC, dI)) (ci := 5) (v := .ref q_13) (C := RX5) (T := TX5) (N := 17) hx hb hts (by decide +kernel) hown hK hP 0 rfl rfl 12 (by decide) (hts (.fieldLink RX5 39 "ProofBench$Proof" "kept" "[LProofBench$Thing;") (by decide +kernel)) (fun _ h9 => h9) rfl dX5_init_159 ?_
  refine va_alen hx hb hK hP 8 5 rfl rfl (v := 20) (show Int32.ofNat 20 = 20 from by decide) dX5_init_162 ?_
  refine lv_icmp_ge (tgt := 186) hx hb dX5_init_163 (by decide) (fun c9 => absurd c9 (by decide)) (fun _ => ?_)
  refine lv_aload_n hx hb dX5_init_166 rfl (lv_at hl 1 rfl) ?_
  refine va_get (D := (dC, dI)) (ci := 5) (v := .ref q_13) (C := RX5) (T := TX5) (N := 17) hx hb hts (by decide +kernel) hown hK hP 0 rfl rfl 12 (by decide) (hts (.fieldLink RX5 39 "ProofBench$Proof" "kept" "[LProofBench$Thing;") (by decide +kernel)) (fun _ h9 => h9) rfl dX5_init_167 ?_
  refine lv_iload hx hb dX5_init_170 (lv_at hl 0 rfl) ?_
  refine lv_aload_n hx hb dX5_init_172 rfl (lv_at hl 1 rfl) ?_
  refine va_get (D := (dC, dI)) (ci := 5) (v := .ref q_16) (C := RX5) (T := TX5) (N := 17) hx hb hts (by decide +kernel) hown hK hP 0 rfl rfl 7 (by decide) (hts (.fieldLink RX5 70 "ProofBench$Proof" "nothing" "LProofBench$Step;") (by decide +kernel)) (fun _ h9 => h9) rfl dX5_init_173 ?_
  refine va_get (D := (dC, dI)) (ci := 8) (v := .ref q_17) (C := RX8) (T := TX8) (N := 4) hx hb hts (by decide +kernel) hown hK hP 12 rfl rfl 0 (by decide) (hts (.fieldLink RX5 74 "ProofBench$Step" "shows" "LProofBench$Thing;") (by decide +kernel)) (fun _ h9 => h9) rfl dX5_init_176 ?_
  refine va_astq (r := (RX10, TX10, 2)) hx hb hK hP hD hS 8 5 10 10 rfl rfl rfl rfl (show vp_in (10) 20 from by unfold vp_in; decide) dX5_init_179 (fun H locs hP hD hS => ?_)
  obtain ⟨f_36, hP, hD⟩ : ∃ f9 : Nat → Option Nat, va_P (dC, dI) vwCl [(h0, .inr (5, [.ref a_n, .ref a_f, .ref a_l, .ref q_15, .ref q_1, .ref q_3, .ref q_5, .ref q_16, .ref q_7, .ref q_10, .int 0, .int 0, .ref q_13, .int 0, .int 0, .long 0, .int 0])), (q_1, .inl (cA_2, 300, .inr (.inr (.inr (.inr (fun _ => none)))))), (q_3, .inl (cA_4, 40, .inr (.inr (.inr (.inr (fun _ => none)))))), (q_5, .inl (cA_6, 4, .inr (.inr (.inr (.inr (f_25)))))), (q_7, .inr (6, [.ref q_8, .int 0])), (q_8, .inl (cA_9, 1210, .inl (fun _ => 0))), (q_10, .inr (6, [.ref q_11, .int 0])), (q_11, .inl (cA_12, 1210, .inl (fun _ => 0))), (q_13, .inl (cA_14, 20, .inr (.inr (.inr (.inr (f9)))))), (q_18, .inl (cA_19, 1, .inl (fun _ => 0))), (q_17, .inr (10, [.ref q_18, .int 0])), (q_20, .inl (cA_21, 0, .inr (.inr (.inr (.inr (fun _ => none)))))), (q_16, .inr (8, [.ref q_17, .ref q_20, .long 0, .int 0]))] H ∧ va_D A [(h0, .inr (5, [.ref a_n, .ref a_f, .ref a_l, .ref q_15, .ref q_1, .ref q_3, .ref q_5, .ref q_16, .ref q_7, .ref q_10, .int 0, .int 0, .ref q_13, .int 0, .int 0, .long 0, .int 0])), (q_1, .inl (cA_2, 300, .inr (.inr (.inr (.inr (fun _ => none)))))), (q_3, .inl (cA_4, 40, .inr (.inr (.inr (.inr (fun _ => none)))))), (q_5, .inl (cA_6, 4, .inr (.inr (.inr (.inr (f_25)))))), (q_7, .inr (6, [.ref q_8, .int 0])), (q_8, .inl (cA_9, 1210, .inl (fun _ => 0))), (q_10, .inr (6, [.ref q_11, .int 0])), (q_11, .inl (cA_12, 1210, .inl (fun _ => 0))), (q_13, .inl (cA_14, 20, .inr (.inr (.inr (.inr (f9)))))), (q_18, .inl (cA_19, 1, .inl (fun _ => 0))), (q_17, .inr (10, [.ref q_18, .int 0])), (q_20, .inl (cA_21, 0, .inr (.inr (.inr (.inr (fun _ => none)))))), (q_16, .inr (8, [.ref q_17, .ref q_20, .long 0, .int 0]))] := ⟨_, hP, hD⟩
  refine lv_iinc (v := 11) (lv' := [(4, .int 11), (0, .ref h0), (1, .ref a_n), (2, .ref a_f), (3, .ref a_l)]) hx hb dX5_init_180 hl (k := 0) rfl (by decide) (by decide) rfl (fun ls hl => ?_)
  refine lv_goto (tgt := 156) hx hb dX5_init_183 (by decide) ?_
  refine lv_iload hx hb dX5_init_156 (lv_at hl 0 rfl) ?_
  refine lv_aload_n hx hb dX5_init_158 rfl (lv_at hl 1 rfl) ?_
  refine va_get (D := (dC, dI)) (ci := 5) (v := .ref q_13) (C := RX5) (T := TX5) (N := 17) hx hb hts (by decide +kernel) hown hK hP 0 rfl rfl 12 (by decide) (hts (.fieldLink RX5 39 "ProofBench$Proof" "kept" "[LProofBench$Thing;") (by decide +kernel)) (fun _ h9 => h9) rfl dX5_init_159 ?_
  refine va_alen hx hb hK hP 8 5 rfl rfl (v := 20) (show Int32.ofNat 20 = 20 from by decide) dX5_init_162 ?_
  refine lv_icmp_ge (tgt := 186) hx hb dX5_init_163 (by decide) (fun c9 => absurd c9 (by decide)) (fun _ => ?_)
  refine lv_aload_n hx hb dX5_init_166 rfl (lv_at hl 1 rfl) ?_
  refine va_get (D := (dC, dI)) (ci := 5) (v := .ref q_13) (C := RX5) (T := TX5) (N := 17) hx hb hts (by decide +kernel) hown hK hP 0 rfl rfl 12 (by decide) (hts (.fieldLink RX5 39 "ProofBench$Proof" "kept" "[LProofBench$Thing;") (by decide +kernel)) (fun _ h9 => h9) rfl dX5_init_167 ?_
  refine lv_iload hx hb dX5_init_170 (lv_at hl 0 rfl) ?_
  refine lv_aload_n hx hb dX5_init_172 rfl (lv_at hl 1 rfl) ?_
  refine va_get (D := (dC, dI)) (ci := 5) (v := .ref q_16) (C := RX5) (T := TX5) (N := 17) hx hb hts (by decide +kernel) hown hK hP 0 rfl rfl 7 (by decide) (hts (.fieldLink RX5 70 "ProofBench$Proof" "nothing" "LProofBench$Step;") (by decide +kernel)) (fun _ h9 => h9) rfl dX5_init_173 ?_
  refine va_get (D := (dC, dI)) (ci := 8) (v := .ref q_17) (C := RX8) (T := TX8) (N := 4) hx hb hts (by decide +kernel) hown hK hP 12 rfl rfl 0 (by decide) (hts (.fieldLink RX5 74 "ProofBench$Step" "shows" "LProofBench$Thing;") (by decide +kernel)) (fun _ h9 => h9) rfl dX5_init_176 ?_
  refine va_astq (r := (RX10, TX10, 2)) hx hb hK hP hD hS 8 5 10 10 rfl rfl rfl rfl (show vp_in (11) 20 from by unfold vp_in; decide) dX5_init_179 (fun H locs hP hD hS => ?_)
  obtain ⟨f_37, hP, hD⟩ : ∃ f9 : Nat → Option Nat, va_P (dC, dI) vwCl [(h0, .inr (5, [.ref a_n, .ref a_f, .ref a_l, .ref q_15, .ref q_1, .ref q_3, .ref q_5, .ref q_16, .ref q_7, .ref q_10, .int 0, .int 0, .ref q_13, .int 0, .int 0, .long 0, .int 0])), (q_1, .inl (cA_2, 300, .inr (.inr (.inr (.inr (fun _ => none)))))), (q_3, .inl (cA_4, 40, .inr (.inr (.inr (.inr (fun _ => none)))))), (q_5, .inl (cA_6, 4, .inr (.inr (.inr (.inr (f_25)))))), (q_7, .inr (6, [.ref q_8, .int 0])), (q_8, .inl (cA_9, 1210, .inl (fun _ => 0))), (q_10, .inr (6, [.ref q_11, .int 0])), (q_11, .inl (cA_12, 1210, .inl (fun _ => 0))), (q_13, .inl (cA_14, 20, .inr (.inr (.inr (.inr (f9)))))), (q_18, .inl (cA_19, 1, .inl (fun _ => 0))), (q_17, .inr (10, [.ref q_18, .int 0])), (q_20, .inl (cA_21, 0, .inr (.inr (.inr (.inr (fun _ => none)))))), (q_16, .inr (8, [.ref q_17, .ref q_20, .long 0, .int 0]))] H ∧ va_D A [(h0, .inr (5, [.ref a_n, .ref a_f, .ref a_l, .ref q_15, .ref q_1, .ref q_3, .ref q_5, .ref q_16, .ref q_7, .ref q_10, .int 0, .int 0, .ref q_13, .int 0, .int 0, .long 0, .int 0])), (q_1, .inl (cA_2, 300, .inr (.inr (.inr (.inr (fun _ => none)))))), (q_3, .inl (cA_4, 40, .inr (.inr (.inr (.inr (fun _ => none)))))), (q_5, .inl (cA_6, 4, .inr (.inr (.inr (.inr (f_25)))))), (q_7, .inr (6, [.ref q_8, .int 0])), (q_8, .inl (cA_9, 1210, .inl (fun _ => 0))), (q_10, .inr (6, [.ref q_11, .int 0])), (q_11, .inl (cA_12, 1210, .inl (fun _ => 0))), (q_13, .inl (cA_14, 20, .inr (.inr (.inr (.inr (f9)))))), (q_18, .inl (cA_19, 1, .inl (fun _ => 0))), (q_17, .inr (10, [.ref q_18, .int 0])), (q_20, .inl (cA_21, 0, .inr (.inr (.inr (.inr (fun _ => none)))))), (q_16, .inr (8, [.ref q_17, .ref q_20, .long 0, .int 0]))] := ⟨_, hP, hD⟩
  refine lv_iinc (v := 12) (lv' := [(4, .int 12), (0, .ref h0), (1, .ref a_n), (2, .ref a_f), (3, .ref a_l)]) hx hb dX5_init_180 hl (k := 0) rfl (by decide) (by decide) rfl (fun ls hl => ?_)
  refine lv_goto (tgt := 156) hx hb dX5_init_183 (by decide) ?_
  refine lv_iload hx hb dX5_init_156 (lv_at hl 0 rfl) ?_
  refine lv_aload_n hx hb dX5_init_158 rfl (lv_at hl 1 rfl) ?_
  refine va_get (D := (dC, dI)) (ci := 5) (v := .ref q_13) (C := RX5) (T := TX5) (N := 17) hx hb hts (by decide +kernel) hown hK hP 0 rfl rfl 12 (by decide) (hts (.fieldLink RX5 39 "ProofBench$Proof" "kept" "[LProofBench$Thing;") (by decide +kernel)) (fun _ h9 => h9) rfl dX5_init_159 ?_
  refine va_alen hx hb hK hP 8 5 rfl rfl (v := 20) (show Int32.ofNat 20 = 20 from by decide) dX5_init_162 ?_
  refine lv_icmp_ge (tgt := 186) hx hb dX5_init_163 (by decide) (fun c9 => absurd c9 (by decide)) (fun _ => ?_)
  refine lv_aload_n hx hb dX5_init_166 rfl (lv_at hl 1 rfl) ?_
  refine va_get (D := (dC, dI)) (ci := 5) (v := .ref q_13) (C := RX5) (T := TX5) (N := 17) hx hb hts (by decide +kernel) hown hK hP 0 rfl rfl 12 (by decide) (hts (.fieldLink RX5 39 "ProofBench$Proof" "kept" "[LProofBench$Thing;") (by decide +kernel)) (fun _ h9 => h9) rfl dX5_init_167 ?_
  refine lv_iload hx hb dX5_init_170 (lv_at hl 0 rfl) ?_
  refine lv_aload_n hx hb dX5_init_172 rfl (lv_at hl 1 rfl) ?_
  refine va_get (D := (dC, dI)) (ci := 5) (v := .ref q_16) (C := RX5) (T := TX5) (N := 17) hx hb hts (by decide +kernel) hown hK hP 0 rfl rfl 7 (by decide) (hts (.fieldLink RX5 70 "ProofBench$Proof" "nothing" "LProofBench$Step;") (by decide +kernel)) (fun _ h9 => h9) rfl dX5_init_173 ?_
  refine va_get (D := (dC, dI)) (ci := 8) (v := .ref q_17) (C := RX8) (T := TX8) (N := 4) hx hb hts (by decide +kernel) hown hK hP 12 rfl rfl 0 (by decide) (hts (.fieldLink RX5 74 "ProofBench$Step" "shows" "LProofBench$Thing;") (by decide +kernel)) (fun _ h9 => h9) rfl dX5_init_176 ?_
  refine va_astq (r := (RX10, TX10, 2)) hx hb hK hP hD hS 8 5 10 10 rfl rfl rfl rfl (show vp_in (12) 20 from by unfold vp_in; decide) dX5_init_179 (fun H locs hP hD hS => ?_)
  obtain ⟨f_38, hP, hD⟩ : ∃ f9 : Nat → Option Nat, va_P (dC, dI) vwCl [(h0, .inr (5, [.ref a_n, .ref a_f, .ref a_l, .ref q_15, .ref q_1, .ref q_3, .ref q_5, .ref q_16, .ref q_7, .ref q_10, .int 0, .int 0, .ref q_13, .int 0, .int 0, .long 0, .int 0])), (q_1, .inl (cA_2, 300, .inr (.inr (.inr (.inr (fun _ => none)))))), (q_3, .inl (cA_4, 40, .inr (.inr (.inr (.inr (fun _ => none)))))), (q_5, .inl (cA_6, 4, .inr (.inr (.inr (.inr (f_25)))))), (q_7, .inr (6, [.ref q_8, .int 0])), (q_8, .inl (cA_9, 1210, .inl (fun _ => 0))), (q_10, .inr (6, [.ref q_11, .int 0])), (q_11, .inl (cA_12, 1210, .inl (fun _ => 0))), (q_13, .inl (cA_14, 20, .inr (.inr (.inr (.inr (f9)))))), (q_18, .inl (cA_19, 1, .inl (fun _ => 0))), (q_17, .inr (10, [.ref q_18, .int 0])), (q_20, .inl (cA_21, 0, .inr (.inr (.inr (.inr (fun _ => none)))))), (q_16, .inr (8, [.ref q_17, .ref q_20, .long 0, .int 0]))] H ∧ va_D A [(h0, .inr (5, [.ref a_n, .ref a_f, .ref a_l, .ref q_15, .ref q_1, .ref q_3, .ref q_5, .ref q_16, .ref q_7, .ref q_10, .int 0, .int 0, .ref q_13, .int 0, .int 0, .long 0, .int 0])), (q_1, .inl (cA_2, 300, .inr (.inr (.inr (.inr (fun _ => none)))))), (q_3, .inl (cA_4, 40, .inr (.inr (.inr (.inr (fun _ => none)))))), (q_5, .inl (cA_6, 4, .inr (.inr (.inr (.inr (f_25)))))), (q_7, .inr (6, [.ref q_8, .int 0])), (q_8, .inl (cA_9, 1210, .inl (fun _ => 0))), (q_10, .inr (6, [.ref q_11, .int 0])), (q_11, .inl (cA_12, 1210, .inl (fun _ => 0))), (q_13, .inl (cA_14, 20, .inr (.inr (.inr (.inr (f9)))))), (q_18, .inl (cA_19, 1, .inl (fun _ => 0))), (q_17, .inr (10, [.ref q_18, .int 0])), (q_20, .inl (cA_21, 0, .inr (.inr (.inr (.inr (fun _ => none)))))), (q_16, .inr (8, [.ref q_17, .ref q_20, .long 0, .int 0]))] := ⟨_, hP, hD⟩
  refine lv_iinc (v := 13) (lv' := [(4, .int 13), (0, .ref h0), (1, .ref a_n), (2, .ref a_f), (3, .ref a_l)]) hx hb dX5_init_180 hl (k := 0) rfl (by decide) (by decide) rfl (fun ls hl => ?_)
  refine lv_goto (tgt := 156) hx hb dX5_init_183 (by decide) ?_
  refine lv_iload hx hb dX5_init_156 (lv_at hl 0 rfl) ?_
  refine lv_aload_n hx hb dX5_init_158 rfl (lv_at hl 1 rfl) ?_
  refine va_get (D := (dC, dI)) (ci := 5) (v := .ref q_13) (C := RX5) (T := TX5) (N := 17) hx hb hts (by decide +kernel) hown hK hP 0 rfl rfl 12 (by decide) (hts (.fieldLink RX5 39 "ProofBench$Proof" "kept" "[LProofBench$Thing;") (by decide +kernel)) (fun _ h9 => h9) rfl dX5_init_159 ?_
  refine va_alen hx hb hK hP 8 5 rfl rfl (v := 20) (show Int32.ofNat 20 = 20 from by decide) dX5_init_162 ?_
  refine lv_icmp_ge (tgt := 186) hx hb dX5_init_163 (by decide) (fun c9 => absurd c9 (by decide)) (fun _ => ?_)
  refine lv_aload_n hx hb dX5_init_166 rfl (lv_at hl 1 rfl) ?_
  refine va_get (D := (dC, dI)) (ci := 5) (v := .ref q_13) (C := RX5) (T := TX5) (N := 17) hx hb hts (by decide +kernel) hown hK hP 0 rfl rfl 12 (by decide) (hts (.fieldLink RX5 39 "ProofBench$Proof" "kept" "[LProofBench$Thing;") (by decide +kernel)) (fun _ h9 => h9) rfl dX5_init_167 ?_
  refine lv_iload hx hb dX5_init_170 (lv_at hl 0 rfl) ?_
  refine lv_aload_n hx hb dX5_init_172 rfl (lv_at hl 1 rfl) ?_
  refine va_get (D := (dC, dI)) (ci := 5) (v := .ref q_16) (C := RX5) (T := TX5) (N := 17) hx hb hts (by decide +kernel) hown hK hP 0 rfl rfl 7 (by decide) (hts (.fieldLink RX5 70 "ProofBench$Proof" "nothing" "LProofBench$Step;") (by decide +kernel)) (fun _ h9 => h9) rfl dX5_init_173 ?_
  refine va_get (D := (dC, dI)) (ci := 8) (v := .ref q_17) (C := RX8) (T := TX8) (N := 4) hx hb hts (by decide +kernel) hown hK hP 12 rfl rfl 0 (by decide) (hts (.fieldLink RX5 74 "ProofBench$Step" "shows" "LProofBench$Thing;") (by decide +kernel)) (fun _ h9 => h9) rfl dX5_init_176 ?_
  refine va_astq (r := (RX10, TX10, 2)) hx hb hK hP hD hS 8 5 10 10 rfl rfl rfl rfl (show vp_in (13) 20 from by unfold vp_in; decide) dX5_init_179 (fun H locs hP hD hS => ?_)
  obtain ⟨f_39, hP, hD⟩ : ∃ f9 : Nat → Option Nat, va_P (dC, dI) vwCl [(h0, .inr (5, [.ref a_n, .ref a_f, .ref a_l, .ref q_15, .ref q_1, .ref q_3, .ref q_5, .ref q_16, .ref q_7, .ref q_10, .int 0, .int 0, .ref q_13, .int 0, .int 0, .long 0, .int 0])), (q_1, .inl (cA_2, 300, .inr (.inr (.inr (.inr (fun _ => none)))))), (q_3, .inl (cA_4, 40, .inr (.inr (.inr (.inr (fun _ => none)))))), (q_5, .inl (cA_6, 4, .inr (.inr (.inr (.inr (f_25)))))), (q_7, .inr (6, [.ref q_8, .int 0])), (q_8, .inl (cA_9, 1210, .inl (fun _ => 0))), (q_10, .inr (6, [.ref q_11, .int 0])), (q_11, .inl (cA_12, 1210, .inl (fun _ => 0))), (q_13, .inl (cA_14, 20, .inr (.inr (.inr (.inr (f9)))))), (q_18, .inl (cA_19, 1, .inl (fun _ => 0))), (q_17, .inr (10, [.ref q_18, .int 0])), (q_20, .inl (cA_21, 0, .inr (.inr (.inr (.inr (fun _ => none)))))), (q_16, .inr (8, [.ref q_17, .ref q_20, .long 0, .int 0]))] H ∧ va_D A [(h0, .inr (5, [.ref a_n, .ref a_f, .ref a_l, .ref q_15, .ref q_1, .ref q_3, .ref q_5, .ref q_16, .ref q_7, .ref q_10, .int 0, .int 0, .ref q_13, .int 0, .int 0, .long 0, .int 0])), (q_1, .inl (cA_2, 300, .inr (.inr (.inr (.inr (fun _ => none)))))), (q_3, .inl (cA_4, 40, .inr (.inr (.inr (.inr (fun _ => none)))))), (q_5, .inl (cA_6, 4, .inr (.inr (.inr (.inr (f_25)))))), (q_7, .inr (6, [.ref q_8, .int 0])), (q_8, .inl (cA_9, 1210, .inl (fun _ => 0))), (q_10, .inr (6, [.ref q_11, .int 0])), (q_11, .inl (cA_12, 1210, .inl (fun _ => 0))), (q_13, .inl (cA_14, 20, .inr (.inr (.inr (.inr (f9)))))), (q_18, .inl (cA_19, 1, .inl (fun _ => 0))), (q_17, .inr (10, [.ref q_18, .int 0])), (q_20, .inl (cA_21, 0, .inr (.inr (.inr (.inr (fun _ => none)))))), (q_16, .inr (8, [.ref q_17, .ref q_20, .long 0, .int 0]))] := ⟨_, hP, hD⟩
  refine lv_iinc (v := 14) (lv' := [(4, .int 14), (0, .ref h0), (1, .ref a_n), (2, .ref a_f), (3, .ref a_l)]) hx hb dX5_init_180 hl (k := 0) rfl (by decide) (by decide) rfl (fun ls hl => ?_)
  refine lv_goto (tgt := 156) hx hb dX5_init_183 (by decide) ?_
  refine lv_iload hx hb dX5_init_156 (lv_at hl 0 rfl) ?_
  refine lv_aload_n hx hb dX5_init_158 rfl (lv_at hl 1 rfl) ?_
  refine va_get (D := (dC, dI)) (ci := 5) (v := .ref q_13) (C := RX5) (T := TX5) (N := 17) hx hb hts (by decide +kernel) hown hK hP 0 rfl rfl 12 (by decide) (hts (.fieldLink RX5 39 "ProofBench$Proof" "kept" "[LProofBench$Thing;") (by decide +kernel)) (fun _ h9 => h9) rfl dX5_init_159 ?_
  refine va_alen hx hb hK hP 8 5 rfl rfl (v := 20) (show Int32.ofNat 20 = 20 from by decide) dX5_init_162 ?_
  refine lv_icmp_ge (tgt := 186) hx hb dX5_init_163 (by decide) (fun c9 => absurd c9 (by decide)) (fun _ => ?_)
  refine lv_aload_n hx hb dX5_init_166 rfl (lv_at hl 1 rfl) ?_
  refine va_get (D := (dC, dI)) (ci := 5) (v := .ref q_13) (C := RX5) (T := TX5) (N := 17) hx hb hts (by decide +kernel) hown hK hP 0 rfl rfl 12 (by decide) (hts (.fieldLink RX5 39 "ProofBench$Proof" "kept" "[LProofBench$Thing;") (by decide +kernel)) (fun _ h9 => h9) rfl dX5_init_167 ?_
  refine lv_iload hx hb dX5_init_170 (lv_at hl 0 rfl) ?_
  refine lv_aload_n hx hb dX5_init_172 rfl (lv_at hl 1 rfl) ?_
  refine va_get (D := (dC, dI)) (ci := 5) (v := .ref q_16) (C := RX5) (T := TX5) (N := 17) hx hb hts (by decide +kernel) hown hK hP 0 rfl rfl 7 (by decide) (hts (.fieldLink RX5 70 "ProofBench$Proof" "nothing" "LProofBench$Step;") (by decide +kernel)) (fun _ h9 => h9) rfl dX5_init_173 ?_
  refine va_get (D := (dC, dI)) (ci := 8) (v := .ref q_17) (C := RX8) (T := TX8) (N := 4) hx hb hts (by decide +kernel) hown hK hP 12 rfl rfl 0 (by decide) (hts (.fieldLink RX5 74 "ProofBench$Step" "shows" "LProofBench$Thing;") (by decide +kernel)) (fun _ h9 => h9) rfl dX5_init_176 ?_
  refine va_astq (r := (RX10, TX10, 2)) hx hb hK hP hD hS 8 5 10 10 rfl rfl rfl rfl (show vp_in (14) 20 from by unfold vp_in; decide) dX5_init_179 (fun H locs hP hD hS => ?_)
  obtain ⟨f_40, hP, hD⟩ : ∃ f9 : Nat → Option Nat, va_P (dC, dI) vwCl [(h0, .inr (5, [.ref a_n, .ref a_f, .ref a_l, .ref q_15, .ref q_1, .ref q_3, .ref q_5, .ref q_16, .ref q_7, .ref q_10, .int 0, .int 0, .ref q_13, .int 0, .int 0, .long 0, .int 0])), (q_1, .inl (cA_2, 300, .inr (.inr (.inr (.inr (fun _ => none)))))), (q_3, .inl (cA_4, 40, .inr (.inr (.inr (.inr (fun _ => none)))))), (q_5, .inl (cA_6, 4, .inr (.inr (.inr (.inr (f_25)))))), (q_7, .inr (6, [.ref q_8, .int 0])), (q_8, .inl (cA_9, 1210, .inl (fun _ => 0))), (q_10, .inr (6, [.ref q_11, .int 0])), (q_11, .inl (cA_12, 1210, .inl (fun _ => 0))), (q_13, .inl (cA_14, 20, .inr (.inr (.inr (.inr (f9)))))), (q_18, .inl (cA_19, 1, .inl (fun _ => 0))), (q_17, .inr (10, [.ref q_18, .int 0])), (q_20, .inl (cA_21, 0, .inr (.inr (.inr (.inr (fun _ => none)))))), (q_16, .inr (8, [.ref q_17, .ref q_20, .long 0, .int 0]))] H ∧ va_D A [(h0, .inr (5, [.ref a_n, .ref a_f, .ref a_l, .ref q_15, .ref q_1, .ref q_3, .ref q_5, .ref q_16, .ref q_7, .ref q_10, .int 0, .int 0, .ref q_13, .int 0, .int 0, .long 0, .int 0])), (q_1, .inl (cA_2, 300, .inr (.inr (.inr (.inr (fun _ => none)))))), (q_3, .inl (cA_4, 40, .inr (.inr (.inr (.inr (fun _ => none)))))), (q_5, .inl (cA_6, 4, .inr (.inr (.inr (.inr (f_25)))))), (q_7, .inr (6, [.ref q_8, .int 0])), (q_8, .inl (cA_9, 1210, .inl (fun _ => 0))), (q_10, .inr (6, [.ref q_11, .int 0])), (q_11, .inl (cA_12, 1210, .inl (fun _ => 0))), (q_13, .inl (cA_14, 20, .inr (.inr (.inr (.inr (f9)))))), (q_18, .inl (cA_19, 1, .inl (fun _ => 0))), (q_17, .inr (10, [.ref q_18, .int 0])), (q_20, .inl (cA_21, 0, .inr (.inr (.inr (.inr (fun _ => none)))))), (q_16, .inr (8, [.ref q_17, .ref q_20, .long 0, .int 0]))] := ⟨_, hP, hD⟩
  refine lv_iinc (v := 15) (lv' := [(4, .int 15), (0, .ref h0), (1, .ref a_n), (2, .ref a_f), (3, .ref a_l)]) hx hb dX5_init_180 hl (k := 0) rfl (by decide) (by decide) rfl (fun ls hl => ?_)
  refine lv_goto (tgt := 156) hx hb dX5_init_183 (by decide) ?_
  refine lv_iload hx hb dX5_init_156 (lv_at hl 0 rfl) ?_
  refine lv_aload_n hx hb dX5_init_158 rfl (lv_at hl 1 rfl) ?_
  refine va_get (D := (dC, dI)) (ci := 5) (v := .ref q_13) (C := RX5) (T := TX5) (N := 17) hx hb hts (by decide +kernel) hown hK hP 0 rfl rfl 12 (by decide) (hts (.fieldLink RX5 39 "ProofBench$Proof" "kept" "[LProofBench$Thing;") (by decide +kernel)) (fun _ h9 => h9) rfl dX5_init_159 ?_
  refine va_alen hx hb hK hP 8 5 rfl rfl (v := 20) (show Int32.ofNat 20 = 20 from by decide) dX5_init_162 ?_
  refine lv_icmp_ge (tgt := 186) hx hb dX5_init_163 (by decide) (fun c9 => absurd c9 (by decide)) (fun _ => ?_)
  refine lv_aload_n hx hb dX5_init_166 rfl (lv_at hl 1 rfl) ?_
  refine va_get (D := (dC, dI)) (ci := 5) (v := .ref q_13) (C := RX5) (T := TX5) (N := 17) hx hb hts (by decide +kernel) hown hK hP 0 rfl rfl 12 (by decide) (hts (.fieldLink RX5 39 "ProofBench$Proof" "kept" "[LProofBench$Thing;") (by decide +kernel)) (fun _ h9 => h9) rfl dX5_init_167 ?_
  refine lv_iload hx hb dX5_init_170 (lv_at hl 0 rfl) ?_
  refine lv_aload_n hx hb dX5_init_172 rfl (lv_at hl 1 rfl) ?_
  refine va_get (D := (dC, dI)) (ci := 5) (v := .ref q_16) (C := RX5) (T := TX5) (N := 17) hx hb hts (by decide +kernel) hown hK hP 0 rfl rfl 7 (by decide) (hts (.fieldLink RX5 70 "ProofBench$Proof" "nothing" "LProofBench$Step;") (by decide +kernel)) (fun _ h9 => h9) rfl dX5_init_173 ?_
  refine va_get (D := (dC, dI)) (ci := 8) (v := .ref q_17) (C := RX8) (T := TX8) (N := 4) hx hb hts (by decide +kernel) hown hK hP 12 rfl rfl 0 (by decide) (hts (.fieldLink RX5 74 "ProofBench$Step" "shows" "LProofBench$Thing;") (by decide +kernel)) (fun _ h9 => h9) rfl dX5_init_176 ?_
  refine va_astq (r := (RX10, TX10, 2)) hx hb hK hP hD hS 8 5 10 10 rfl rfl rfl rfl (show vp_in (15) 20 from by unfold vp_in; decide) dX5_init_179 (fun H locs hP hD hS => ?_)
  obtain ⟨f_41, hP, hD⟩ : ∃ f9 : Nat → Option Nat, va_P (dC, dI) vwCl [(h0, .inr (5, [.ref a_n, .ref a_f, .ref a_l, .ref q_15, .ref q_1, .ref q_3, .ref q_5, .ref q_16, .ref q_7, .ref q_10, .int 0, .int 0, .ref q_13, .int 0, .int 0, .long 0, .int 0])), (q_1, .inl (cA_2, 300, .inr (.inr (.inr (.inr (fun _ => none)))))), (q_3, .inl (cA_4, 40, .inr (.inr (.inr (.inr (fun _ => none)))))), (q_5, .inl (cA_6, 4, .inr (.inr (.inr (.inr (f_25)))))), (q_7, .inr (6, [.ref q_8, .int 0])), (q_8, .inl (cA_9, 1210, .inl (fun _ => 0))), (q_10, .inr (6, [.ref q_11, .int 0])), (q_11, .inl (cA_12, 1210, .inl (fun _ => 0))), (q_13, .inl (cA_14, 20, .inr (.inr (.inr (.inr (f9)))))), (q_18, .inl (cA_19, 1, .inl (fun _ => 0))), (q_17, .inr (10, [.ref q_18, .int 0])), (q_20, .inl (cA_21, 0, .inr (.inr (.inr (.inr (fun _ => none)))))), (q_16, .inr (8, [.ref q_17, .ref q_20, .long 0, .int 0]))] H ∧ va_D A [(h0, .inr (5, [.ref a_n, .ref a_f, .ref a_l, .ref q_15, .ref q_1, .ref q_3, .ref q_5, .ref q_16, .ref q_7, .ref q_10, .int 0, .int 0, .ref q_13, .int 0, .int 0, .long 0, .int 0])), (q_1, .inl (cA_2, 300, .inr (.inr (.inr (.inr (fun _ => none)))))), (q_3, .inl (cA_4, 40, .inr (.inr (.inr (.inr (fun _ => none)))))), (q_5, .inl (cA_6, 4, .inr (.inr (.inr (.inr (f_25)))))), (q_7, .inr (6, [.ref q_8, .int 0])), (q_8, .inl (cA_9, 1210, .inl (fun _ => 0))), (q_10, .inr (6, [.ref q_11, .int 0])), (q_11, .inl (cA_12, 1210, .inl (fun _ => 0))), (q_13, .inl (cA_14, 20, .inr (.inr (.inr (.inr (f9)))))), (q_18, .inl (cA_19, 1, .inl (fun _ => 0))), (q_17, .inr (10, [.ref q_18, .int 0])), (q_20, .inl (cA_21, 0, .inr (.inr (.inr (.inr (fun _ => none)))))), (q_16, .inr (8, [.ref q_17, .ref q_20, .long 0, .int 0]))] := ⟨_, hP, hD⟩
  refine lv_iinc (v := 16) (lv' := [(4, .int 16), (0, .ref h0), (1, .ref a_n), (2, .ref a_f), (3, .ref a_l)]) hx hb dX5_init_180 hl (k := 0) rfl (by decide) (by decide) rfl (fun ls hl => ?_)
  refine lv_goto (tgt := 156) hx hb dX5_init_183 (by decide) ?_
  refine lv_iload hx hb dX5_init_156 (lv_at hl 0 rfl) ?_
  refine lv_aload_n hx hb dX5_init_158 rfl (lv_at hl 1 rfl) ?_
  refine va_get (D := (dC, dI)) (ci := 5) (v := .ref q_13) (C := RX5) (T := TX5) (N := 17) hx hb hts (by decide +kernel) hown hK hP 0 rfl rfl 12 (by decide) (hts (.fieldLink RX5 39 "ProofBench$Proof" "kept" "[LProofBench$Thing;") (by decide +kernel)) (fun _ h9 => h9) rfl dX5_init_159 ?_
  refine va_alen hx hb hK hP 8 5 rfl rfl (v := 20) (show Int32.ofNat 20 = 20 from by decide) dX5_init_162 ?_
  refine lv_icmp_ge (tgt := 186) hx hb dX5_init_163 (by decide) (fun c9 => absurd c9 (by decide)) (fun _ => ?_)
  refine lv_aload_n hx hb dX5_init_166 rfl (lv_at hl 1 rfl) ?_
  refine va_get (D := (dC, dI)) (ci := 5) (v := .ref q_13) (C := RX5) (T := TX5) (N := 17) hx hb hts (by decide +kernel) hown hK hP 0 rfl rfl 12 (by decide) (hts (.fieldLink RX5 39 "ProofBench$Proof" "kept" "[LProofBench$Thing;") (by decide +kernel)) (fun _ h9 => h9) rfl dX5_init_167 ?_
  refine lv_iload hx hb dX5_init_170 (lv_at hl 0 rfl) ?_
  refine lv_aload_n hx hb dX5_init_172 rfl (lv_at hl 1 rfl) ?_
  refine va_get (D := (dC, dI)) (ci := 5) (v := .ref q_16) (C := RX5) (T := TX5) (N := 17) hx hb hts (by decide +kernel) hown hK hP 0 rfl rfl 7 (by decide) (hts (.fieldLink RX5 70 "ProofBench$Proof" "nothing" "LProofBench$Step;") (by decide +kernel)) (fun _ h9 => h9) rfl dX5_init_173 ?_
  refine va_get (D := (dC, dI)) (ci := 8) (v := .ref q_17) (C := RX8) (T := TX8) (N := 4) hx hb hts (by decide +kernel) hown hK hP 12 rfl rfl 0 (by decide) (hts (.fieldLink RX5 74 "ProofBench$Step" "shows" "LProofBench$Thing;") (by decide +kernel)) (fun _ h9 => h9) rfl dX5_init_176 ?_
  refine va_astq (r := (RX10, TX10, 2)) hx hb hK hP hD hS 8 5 10 10 rfl rfl rfl rfl (show vp_in (16) 20 from by unfold vp_in; decide) dX5_init_179 (fun H locs hP hD hS => ?_)
  obtain ⟨f_42, hP, hD⟩ : ∃ f9 : Nat → Option Nat, va_P (dC, dI) vwCl [(h0, .inr (5, [.ref a_n, .ref a_f, .ref a_l, .ref q_15, .ref q_1, .ref q_3, .ref q_5, .ref q_16, .ref q_7, .ref q_10, .int 0, .int 0, .ref q_13, .int 0, .int 0, .long 0, .int 0])), (q_1, .inl (cA_2, 300, .inr (.inr (.inr (.inr (fun _ => none)))))), (q_3, .inl (cA_4, 40, .inr (.inr (.inr (.inr (fun _ => none)))))), (q_5, .inl (cA_6, 4, .inr (.inr (.inr (.inr (f_25)))))), (q_7, .inr (6, [.ref q_8, .int 0])), (q_8, .inl (cA_9, 1210, .inl (fun _ => 0))), (q_10, .inr (6, [.ref q_11, .int 0])), (q_11, .inl (cA_12, 1210, .inl (fun _ => 0))), (q_13, .inl (cA_14, 20, .inr (.inr (.inr (.inr (f9)))))), (q_18, .inl (cA_19, 1, .inl (fun _ => 0))), (q_17, .inr (10, [.ref q_18, .int 0])), (q_20, .inl (cA_21, 0, .inr (.inr (.inr (.inr (fun _ => none)))))), (q_16, .inr (8, [.ref q_17, .ref q_20, .long 0, .int 0]))] H ∧ va_D A [(h0, .inr (5, [.ref a_n, .ref a_f, .ref a_l, .ref q_15, .ref q_1, .ref q_3, .ref q_5, .ref q_16, .ref q_7, .ref q_10, .int 0, .int 0, .ref q_13, .int 0, .int 0, .long 0, .int 0])), (q_1, .inl (cA_2, 300, .inr (.inr (.inr (.inr (fun _ => none)))))), (q_3, .inl (cA_4, 40, .inr (.inr (.inr (.inr (fun _ => none)))))), (q_5, .inl (cA_6, 4, .inr (.inr (.inr (.inr (f_25)))))), (q_7, .inr (6, [.ref q_8, .int 0])), (q_8, .inl (cA_9, 1210, .inl (fun _ => 0))), (q_10, .inr (6, [.ref q_11, .int 0])), (q_11, .inl (cA_12, 1210, .inl (fun _ => 0))), (q_13, .inl (cA_14, 20, .inr (.inr (.inr (.inr (f9)))))), (q_18, .inl (cA_19, 1, .inl (fun _ => 0))), (q_17, .inr (10, [.ref q_18, .int 0])), (q_20, .inl (cA_21, 0, .inr (.inr (.inr (.inr (fun _ => none)))))), (q_16, .inr (8, [.ref q_17, .ref q_20, .long 0, .int 0]))] := ⟨_, hP, hD⟩
  refine lv_iinc (v := 17) (lv' := [(4, .int 17), (0, .ref h0), (1, .ref a_n), (2, .ref a_f), (3, .ref a_l)]) hx hb dX5_init_180 hl (k := 0) rfl (by decide) (by decide) rfl (fun ls hl => ?_)
  refine lv_goto (tgt := 156) hx hb dX5_init_183 (by decide) ?_
  refine lv_iload hx hb dX5_init_156 (lv_at hl 0 rfl) ?_
  refine lv_aload_n hx hb dX5_init_158 rfl (lv_at hl 1 rfl) ?_
  refine va_get (D := (dC, dI)) (ci := 5) (v := .ref q_13) (C := RX5) (T := TX5) (N := 17) hx hb hts (by decide +kernel) hown hK hP 0 rfl rfl 12 (by decide) (hts (.fieldLink RX5 39 "ProofBench$Proof" "kept" "[LProofBench$Thing;") (by decide +kernel)) (fun _ h9 => h9) rfl dX5_init_159 ?_
  refine va_alen hx hb hK hP 8 5 rfl rfl (v := 20) (show Int32.ofNat 20 = 20 from by decide) dX5_init_162 ?_
  refine lv_icmp_ge (tgt := 186) hx hb dX5_init_163 (by decide) (fun c9 => absurd c9 (by decide)) (fun _ => ?_)
  refine lv_aload_n hx hb dX5_init_166 rfl (lv_at hl 1 rfl) ?_
  refine va_get (D := (dC, dI)) (ci := 5) (v := .ref q_13) (C := RX5) (T := TX5) (N := 17) hx hb hts (by decide +kernel) hown hK hP 0 rfl rfl 12 (by decide) (hts (.fieldLink RX5 39 "ProofBench$Proof" "kept" "[LProofBench$Thing;") (by decide +kernel)) (fun _ h9 => h9) rfl dX5_init_167 ?_
  refine lv_iload hx hb dX5_init_170 (lv_at hl 0 rfl) ?_
  refine lv_aload_n hx hb dX5_init_172 rfl (lv_at hl 1 rfl) ?_
  refine va_get (D := (dC, dI)) (ci := 5) (v := .ref q_16) (C := RX5) (T := TX5) (N := 17) hx hb hts (by decide +kernel) hown hK hP 0 rfl rfl 7 (by decide) (hts (.fieldLink RX5 70 "ProofBench$Proof" "nothing" "LProofBench$Step;") (by decide +kernel)) (fun _ h9 => h9) rfl dX5_init_173 ?_
  refine va_get (D := (dC, dI)) (ci := 8) (v := .ref q_17) (C := RX8) (T := TX8) (N := 4) hx hb hts (by decide +kernel) hown hK hP 12 rfl rfl 0 (by decide) (hts (.fieldLink RX5 74 "ProofBench$Step" "shows" "LProofBench$Thing;") (by decide +kernel)) (fun _ h9 => h9) rfl dX5_init_176 ?_
  refine va_astq (r := (RX10, TX10, 2)) hx hb hK hP hD hS 8 5 10 10 rfl rfl rfl rfl (show vp_in (17) 20 from by unfold vp_in; decide) dX5_init_179 (fun H locs hP hD hS => ?_)
  obtain ⟨f_43, hP, hD⟩ : ∃ f9 : Nat → Option Nat, va_P (dC, dI) vwCl [(h0, .inr (5, [.ref a_n, .ref a_f, .ref a_l, .ref q_15, .ref q_1, .ref q_3, .ref q_5, .ref q_16, .ref q_7, .ref q_10, .int 0, .int 0, .ref q_13, .int 0, .int 0, .long 0, .int 0])), (q_1, .inl (cA_2, 300, .inr (.inr (.inr (.inr (fun _ => none)))))), (q_3, .inl (cA_4, 40, .inr (.inr (.inr (.inr (fun _ => none)))))), (q_5, .inl (cA_6, 4, .inr (.inr (.inr (.inr (f_25)))))), (q_7, .inr (6, [.ref q_8, .int 0])), (q_8, .inl (cA_9, 1210, .inl (fun _ => 0))), (q_10, .inr (6, [.ref q_11, .int 0])), (q_11, .inl (cA_12, 1210, .inl (fun _ => 0))), (q_13, .inl (cA_14, 20, .inr (.inr (.inr (.inr (f9)))))), (q_18, .inl (cA_19, 1, .inl (fun _ => 0))), (q_17, .inr (10, [.ref q_18, .int 0])), (q_20, .inl (cA_21, 0, .inr (.inr (.inr (.inr (fun _ => none)))))), (q_16, .inr (8, [.ref q_17, .ref q_20, .long 0, .int 0]))] H ∧ va_D A [(h0, .inr (5, [.ref a_n, .ref a_f, .ref a_l, .ref q_15, .ref q_1, .ref q_3, .ref q_5, .ref q_16, .ref q_7, .ref q_10, .int 0, .int 0, .ref q_13, .int 0, .int 0, .long 0, .int 0])), (q_1, .inl (cA_2, 300, .inr (.inr (.inr (.inr (fun _ => none)))))), (q_3, .inl (cA_4, 40, .inr (.inr (.inr (.inr (fun _ => none)))))), (q_5, .inl (cA_6, 4, .inr (.inr (.inr (.inr (f_25)))))), (q_7, .inr (6, [.ref q_8, .int 0])), (q_8, .inl (cA_9, 1210, .inl (fun _ => 0))), (q_10, .inr (6, [.ref q_11, .int 0])), (q_11, .inl (cA_12, 1210, .inl (fun _ => 0))), (q_13, .inl (cA_14, 20, .inr (.inr (.inr (.inr (f9)))))), (q_18, .inl (cA_19, 1, .inl (fun _ => 0))), (q_17, .inr (10, [.ref q_18, .int 0])), (q_20, .inl (cA_21, 0, .inr (.inr (.inr (.inr (fun _ => none)))))), (q_16, .inr (8, [.ref q_17, .ref q_20, .long 0, .int 0]))] := ⟨_, hP, hD⟩
  refine lv_iinc (v := 18) (lv' := [(4, .int 18), (0, .ref h0), (1, .ref a_n), (2, .ref a_f), (3, .ref a_l)]) hx hb dX5_init_180 hl (k := 0) rfl (by decide) (by decide) rfl (fun ls hl => ?_)
  refine lv_goto (tgt := 156) hx hb dX5_init_183 (by decide) ?_
  refine lv_iload hx hb dX5_init_156 (lv_at hl 0 rfl) ?_
  refine lv_aload_n hx hb dX5_init_158 rfl (lv_at hl 1 rfl) ?_
  refine va_get (D := (dC, dI)) (ci := 5) (v := .ref q_13) (C := RX5) (T := TX5) (N := 17) hx hb hts (by decide +kernel) hown hK hP 0 rfl rfl 12 (by decide) (hts (.fieldLink RX5 39 "ProofBench$Proof" "kept" "[LProofBench$Thing;") (by decide +kernel)) (fun _ h9 => h9) rfl dX5_init_159 ?_
  refine va_alen hx hb hK hP 8 5 rfl rfl (v := 20) (show Int32.ofNat 20 = 20 from by decide) dX5_init_162 ?_
  refine lv_icmp_ge (tgt := 186) hx hb dX5_init_163 (by decide) (fun c9 => absurd c9 (by decide)) (fun _ => ?_)
  refine lv_aload_n hx hb dX5_init_166 rfl (lv_at hl 1 rfl) ?_
  refine va_get (D := (dC, dI)) (ci := 5) (v := .ref q_13) (C := RX5) (T := TX5) (N := 17) hx hb hts (by decide +kernel) hown hK hP 0 rfl rfl 12 (by decide) (hts (.fieldLink RX5 39 "ProofBench$Proof" "kept" "[LProofBench$Thing;") (by decide +kernel)) (fun _ h9 => h9) rfl dX5_init_167 ?_
  refine lv_iload hx hb dX5_init_170 (lv_at hl 0 rfl) ?_
  refine lv_aload_n hx hb dX5_init_172 rfl (lv_at hl 1 rfl) ?_
  refine va_get (D := (dC, dI)) (ci := 5) (v := .ref q_16) (C := RX5) (T := TX5) (N := 17) hx hb hts (by decide +kernel) hown hK hP 0 rfl rfl 7 (by decide) (hts (.fieldLink RX5 70 "ProofBench$Proof" "nothing" "LProofBench$Step;") (by decide +kernel)) (fun _ h9 => h9) rfl dX5_init_173 ?_
  refine va_get (D := (dC, dI)) (ci := 8) (v := .ref q_17) (C := RX8) (T := TX8) (N := 4) hx hb hts (by decide +kernel) hown hK hP 12 rfl rfl 0 (by decide) (hts (.fieldLink RX5 74 "ProofBench$Step" "shows" "LProofBench$Thing;") (by decide +kernel)) (fun _ h9 => h9) rfl dX5_init_176 ?_
  refine va_astq (r := (RX10, TX10, 2)) hx hb hK hP hD hS 8 5 10 10 rfl rfl rfl rfl (show vp_in (18) 20 from by unfold vp_in; decide) dX5_init_179 (fun H locs hP hD hS => ?_)
  obtain ⟨f_44, hP, hD⟩ : ∃ f9 : Nat → Option Nat, va_P (dC, dI) vwCl [(h0, .inr (5, [.ref a_n, .ref a_f, .ref a_l, .ref q_15, .ref q_1, .ref q_3, .ref q_5, .ref q_16, .ref q_7, .ref q_10, .int 0, .int 0, .ref q_13, .int 0, .int 0, .long 0, .int 0])), (q_1, .inl (cA_2, 300, .inr (.inr (.inr (.inr (fun _ => none)))))), (q_3, .inl (cA_4, 40, .inr (.inr (.inr (.inr (fun _ => none)))))), (q_5, .inl (cA_6, 4, .inr (.inr (.inr (.inr (f_25)))))), (q_7, .inr (6, [.ref q_8, .int 0])), (q_8, .inl (cA_9, 1210, .inl (fun _ => 0))), (q_10, .inr (6, [.ref q_11, .int 0])), (q_11, .inl (cA_12, 1210, .inl (fun _ => 0))), (q_13, .inl (cA_14, 20, .inr (.inr (.inr (.inr (f9)))))), (q_18, .inl (cA_19, 1, .inl (fun _ => 0))), (q_17, .inr (10, [.ref q_18, .int 0])), (q_20, .inl (cA_21, 0, .inr (.inr (.inr (.inr (fun _ => none)))))), (q_16, .inr (8, [.ref q_17, .ref q_20, .long 0, .int 0]))] H ∧ va_D A [(h0, .inr (5, [.ref a_n, .ref a_f, .ref a_l, .ref q_15, .ref q_1, .ref q_3, .ref q_5, .ref q_16, .ref q_7, .ref q_10, .int 0, .int 0, .ref q_13, .int 0, .int 0, .long 0, .int 0])), (q_1, .inl (cA_2, 300, .inr (.inr (.inr (.inr (fun _ => none)))))), (q_3, .inl (cA_4, 40, .inr (.inr (.inr (.inr (fun _ => none)))))), (q_5, .inl (cA_6, 4, .inr (.inr (.inr (.inr (f_25)))))), (q_7, .inr (6, [.ref q_8, .int 0])), (q_8, .inl (cA_9, 1210, .inl (fun _ => 0))), (q_10, .inr (6, [.ref q_11, .int 0])), (q_11, .inl (cA_12, 1210, .inl (fun _ => 0))), (q_13, .inl (cA_14, 20, .inr (.inr (.inr (.inr (f9)))))), (q_18, .inl (cA_19, 1, .inl (fun _ => 0))), (q_17, .inr (10, [.ref q_18, .int 0])), (q_20, .inl (cA_21, 0, .inr (.inr (.inr (.inr (fun _ => none)))))), (q_16, .inr (8, [.ref q_17, .ref q_20, .long 0, .int 0]))] := ⟨_, hP, hD⟩
  refine lv_iinc (v := 19) (lv' := [(4, .int 19), (0, .ref h0), (1, .ref a_n), (2, .ref a_f), (3, .ref a_l)]) hx hb dX5_init_180 hl (k := 0) rfl (by decide) (by decide) rfl (fun ls hl => ?_)
  refine lv_goto (tgt := 156) hx hb dX5_init_183 (by decide) ?_
  refine lv_iload hx hb dX5_init_156 (lv_at hl 0 rfl) ?_
  refine lv_aload_n hx hb dX5_init_158 rfl (lv_at hl 1 rfl) ?_
  refine va_get (D := (dC, dI)) (ci := 5) (v := .ref q_13) (C := RX5) (T := TX5) (N := 17) hx hb hts (by decide +kernel) hown hK hP 0 rfl rfl 12 (by decide) (hts (.fieldLink RX5 39 "ProofBench$Proof" "kept" "[LProofBench$Thing;") (by decide +kernel)) (fun _ h9 => h9) rfl dX5_init_159 ?_
  refine va_alen hx hb hK hP 8 5 rfl rfl (v := 20) (show Int32.ofNat 20 = 20 from by decide) dX5_init_162 ?_
  refine lv_icmp_ge (tgt := 186) hx hb dX5_init_163 (by decide) (fun c9 => absurd c9 (by decide)) (fun _ => ?_)
  refine lv_aload_n hx hb dX5_init_166 rfl (lv_at hl 1 rfl) ?_
  refine va_get (D := (dC, dI)) (ci := 5) (v := .ref q_13) (C := RX5) (T := TX5) (N := 17) hx hb hts (by decide +kernel) hown hK hP 0 rfl rfl 12 (by decide) (hts (.fieldLink RX5 39 "ProofBench$Proof" "kept" "[LProofBench$Thing;") (by decide +kernel)) (fun _ h9 => h9) rfl dX5_init_167 ?_
  refine lv_iload hx hb dX5_init_170 (lv_at hl 0 rfl) ?_
  refine lv_aload_n hx hb dX5_init_172 rfl (lv_at hl 1 rfl) ?_
  refine va_get (D := (dC, dI)) (ci := 5) (v := .ref q_16) (C := RX5) (T := TX5) (N := 17) hx hb hts (by decide +kernel) hown hK hP 0 rfl rfl 7 (by decide) (hts (.fieldLink RX5 70 "ProofBench$Proof" "nothing" "LProofBench$Step;") (by decide +kernel)) (fun _ h9 => h9) rfl dX5_init_173 ?_
  refine va_get (D := (dC, dI)) (ci := 8) (v := .ref q_17) (C := RX8) (T := TX8) (N := 4) hx hb hts (by decide +kernel) hown hK hP 12 rfl rfl 0 (by decide) (hts (.fieldLink RX5 74 "ProofBench$Step" "shows" "LProofBench$Thing;") (by decide +kernel)) (fun _ h9 => h9) rfl dX5_init_176 ?_
  refine va_astq (r := (RX10, TX10, 2)) hx hb hK hP hD hS 8 5 10 10 rfl rfl rfl rfl (show vp_in (19) 20 from by unfold vp_in; decide) dX5_init_179 (fun H locs hP hD hS => ?_)
  obtain ⟨f_45, hP, hD⟩ : ∃ f9 : Nat → Option Nat, va_P (dC, dI) vwCl [(h0, .inr (5, [.ref a_n, .ref a_f, .ref a_l, .ref q_15, .ref q_1, .ref q_3, .ref q_5, .ref q_16, .ref q_7, .ref q_10, .int 0, .int 0, .ref q_13, .int 0, .int 0, .long 0, .int 0])), (q_1, .inl (cA_2, 300, .inr (.inr (.inr (.inr (fun _ => none)))))), (q_3, .inl (cA_4, 40, .inr (.inr (.inr (.inr (fun _ => none)))))), (q_5, .inl (cA_6, 4, .inr (.inr (.inr (.inr (f_25)))))), (q_7, .inr (6, [.ref q_8, .int 0])), (q_8, .inl (cA_9, 1210, .inl (fun _ => 0))), (q_10, .inr (6, [.ref q_11, .int 0])), (q_11, .inl (cA_12, 1210, .inl (fun _ => 0))), (q_13, .inl (cA_14, 20, .inr (.inr (.inr (.inr (f9)))))), (q_18, .inl (cA_19, 1, .inl (fun _ => 0))), (q_17, .inr (10, [.ref q_18, .int 0])), (q_20, .inl (cA_21, 0, .inr (.inr (.inr (.inr (fun _ => none)))))), (q_16, .inr (8, [.ref q_17, .ref q_20, .long 0, .int 0]))] H ∧ va_D A [(h0, .inr (5, [.ref a_n, .ref a_f, .ref a_l, .ref q_15, .ref q_1, .ref q_3, .ref q_5, .ref q_16, .ref q_7, .ref q_10, .int 0, .int 0, .ref q_13, .int 0, .int 0, .long 0, .int 0])), (q_1, .inl (cA_2, 300, .inr (.inr (.inr (.inr (fun _ => none)))))), (q_3, .inl (cA_4, 40, .inr (.inr (.inr (.inr (fun _ => none)))))), (q_5, .inl (cA_6, 4, .inr (.inr (.inr (.inr (f_25)))))), (q_7, .inr (6, [.ref q_8, .int 0])), (q_8, .inl (cA_9, 1210, .inl (fun _ => 0))), (q_10, .inr (6, [.ref q_11, .int 0])), (q_11, .inl (cA_12, 1210, .inl (fun _ => 0))), (q_13, .inl (cA_14, 20, .inr (.inr (.inr (.inr (f9)))))), (q_18, .inl (cA_19, 1, .inl (fun _ => 0))), (q_17, .inr (10, [.ref q_18, .int 0])), (q_20, .inl (cA_21, 0, .inr (.inr (.inr (.inr (fun _ => none)))))), (q_16, .inr (8, [.ref q_17, .ref q_20, .long 0, .int 0]))] := ⟨_, hP, hD⟩
  refine lv_iinc (v := 20) (lv' := [(4, .int 20), (0, .ref h0), (1, .ref a_n), (2, .ref a_f), (3, .ref a_l)]) hx hb dX5_init_180 hl (k := 0) rfl (by decide) (by decide) rfl (fun ls hl => ?_)
  refine lv_goto (tgt := 156) hx hb dX5_init_183 (by decide) ?_
  refine lv_iload hx hb dX5_init_156 (lv_at hl 0 rfl) ?_
  refine lv_aload_n hx hb dX5_init_158 rfl (lv_at hl 1 rfl) ?_
  refine va_get (D := (dC, dI)) (ci := 5) (v := .ref q_13) (C := RX5) (T := TX5) (N := 17) hx hb hts (by decide +kernel) hown hK hP 0 rfl rfl 12 (by decide) (hts (.fieldLink RX5 39 "ProofBench$Proof" "kept" "[LProofBench$Thing;") (by decide +kernel)) (fun _ h9 => h9) rfl dX5_init_159 ?_
  refine va_alen hx hb hK hP 8 5 rfl rfl (v := 20) (show Int32.ofNat 20 = 20 from by decide) dX5_init_162 ?_
  refine lv_icmp_ge (tgt := 186) hx hb dX5_init_163 (by decide) (fun _ => ?_) (fun c9 => absurd c9 (by decide))
  have hP9 := hP.sub (ws' := [(h0, .inr (5, [.ref a_n, .ref a_f, .ref a_l, .ref q_15, .ref q_1, .ref q_3, .ref q_5, .ref q_16, .ref q_7, .ref q_10, .int 0, .int 0, .ref q_13, .int 0, .int 0, .long 0, .int 0]))]) [0] rfl
  have hD9 := hD.sub (ws' := [(h0, .inr (5, [.ref a_n, .ref a_f, .ref a_l, .ref q_15, .ref q_1, .ref q_3, .ref q_5, .ref q_16, .ref q_7, .ref q_10, .int 0, .int 0, .ref q_13, .int 0, .int 0, .long 0, .int 0]))]) [0] (by decide) rfl
  have hK9 := hK.sub (tys' := []) [] rfl
  refine W.widen (k := 22) (n := 4413) (by omega) (by omega) ?_
  exact W.vret hx hb hr (fun t ht hW => ⟨⟨(), rfl, trivial, q_15, q_1, q_3, q_5, q_16, q_7, q_10, q_13, by rw [ht]; exact hP9, va_K.moved hW.alike hK9, hD9⟩, hS.F ht⟩) hS.2.2 dX5_init_186
