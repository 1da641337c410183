set_option maxHeartbeats 4000000 in
set_option maxRecDepth 100000 in
theorem c_X1_init (l : Launch) (dC : Nat → ClassId) (dI : Nat → Nat → Nat) (sz : Nat) (k0 : Nat) : Met l yX1_init wsX1_init ({ frames := 1, cells := 4, slots := 3600, locals := 12 }) (va_Pc [.ref k0] (fun U => U.heap.size = sz ∧ va_P (dC, dI) vwCl [(k0, .inr (2, [.null, .null, .null, .null, .int 0, .int 0, .int 0]))] U.heap ∧ va_K (dC, dI) vwCl [] U ∧ va_D (fun _ => True) [(k0, .inr (2, [.null, .null, .null, .null, .int 0, .int 0, .int 0]))])) (va_Qv (fun (u : (Nat → Nat) × (Nat → ClassId)) => True) (fun (u : (Nat → Nat) × (Nat → ClassId)) (t : State) => va_P (dC, dI) vwCl [(k0, .inr (2, [.ref (u.1 0), .ref (u.1 1), .ref (u.1 2), .ref (u.1 3), .int 0, .int 0, .int 0])), (u.1 0, .inl (u.2 0, 300, .inl (fun _ => 0))), (u.1 1, .inl (u.2 1, 300, .inl (fun _ => 0))), (u.1 2, .inl (u.2 2, 2700, .inl (fun _ => 0))), (u.1 3, .inl (u.2 3, 300, .inl (fun _ => 0)))] t.heap ∧ va_K (dC, dI) vwCl [(u.2 0, .int), (u.2 1, .int), (u.2 2, .byte), (u.2 3, .int)] t ∧ va_D (va_A [(k0, .inr (2, [.null, .null, .null, .null, .int 0, .int 0, .int 0]))] sz) [(k0, .inr (2, [.ref (u.1 0), .ref (u.1 1), .ref (u.1 2), .ref (u.1 3), .int 0, .int 0, .int 0])), (u.1 0, .inl (u.2 0, 300, .inl (fun _ => 0))), (u.1 1, .inl (u.2 1, 300, .inl (fun _ => 0))), (u.1 2, .inl (u.2 2, 2700, .inl (fun _ => 0))), (u.1 3, .inl (u.2 3, 300, .inl (fun _ => 0)))]) (va_A [(k0, .inr (2, [.null, .null, .null, .null, .int 0, .int 0, .int 0]))] sz)) 4 3600 (va_A [(k0, .inr (2, [.null, .null, .null, .null, .int 0, .int 0, .int 0]))] sz) := by
  refine Met.ofW (cc := cX1_init) (maxL := 1) (ret := none) (by decide) rfl ?_
  intro p e s m args below meth c s₁ B hml hv
  obtain ⟨rfl, hsz, hP, hK, hD0⟩ := hv
  have hx := B.exec
  have hb := B.bytes
  have hr := B.returns
  have hts := atoms_spec (ws := wsX1_init) B.pre
  have hown : s.vm.findClass RX1 = some m.cls := findClass_of_methodNamed B.named
  have hlocks := B.notSynchronized
  have hin : meth.name = "<init>" := (name_of_methodNamed B.named B.method).1
  subst hsz
  have hD := hD0.self (sz := s.heap.size)
  generalize hAe : va_A [(k0, .inr (2, [.null, .null, .null, .null, .int 0, .int 0, .int 0]))] s.heap.size = A at hD ⊢
  have hA : ∀ q : Nat, s.heap.size ≤ q → A q := fun q h => by rw [← hAe]; exact Or.inr h
  have hS : va_S A s.heap s.heap [] := va_S.rf
  have hl := lv_entry ([.ref k0]) (n := 1) (Nat.le_of_ble_eq_true rfl)
  rw [lg_entry_eq]
  generalize (lg_sl ([.ref k0]) ++ List.replicate (1 - (lg_sl ([.ref k0])).length) Slot.unset).toArray = ls at hl ⊢
  have hl : lv_has ls 1 [(0, .ref k0)] := hl
  refine lv_aload_n hx hb dX1_init_0 rfl (lv_at hl 0 rfl) ?_
  refine W.objInit hx hb hown (hts (.methodLink RX1 1 objectInit) (by decide +kernel)) (hts (.instanceMethod objectInit) (by decide +kernel)) (hts (.code objectInit ⟨#[0xb1]⟩ 1 none) (by decide +kernel)) rfl (by rw [hml]; exact hl.1) rfl dX1_init_1 (Nat.le_of_ble_eq_true rfl) (Nat.le_of_ble_eq_true rfl) ?_
  refine W.eq (g2 := F0 m 4 ls []) rfl ?_
  refine lv_aload_n hx hb dX1_init_4 rfl (lv_at hl 0 rfl) ?_
  refine lv_sipush (v := 300) hx hb dX1_init_5 (by decide) ?_
  refine va_newa (atype := .int) (ty := .int) (N' := 300) (a0 := (300, .inl (fun _ => 0))) hx hb (hts (.arrayClass .int) (by decide +kernel)) rfl hK hP hD hS hA (fun _ => rfl) (by decide) (by decide) (Nat.le_of_ble_eq_true rfl) (Nat.le_of_ble_eq_true rfl) (Nat.le_of_ble_eq_true rfl) dX1_init_8 (fun q_1 k_2 H hK hP hD hS => ?_)
  have hP : va_P (dC, dI) vwCl [(k0, .inr (2, [.null, .null, .null, .null, .int 0, .int 0, .int 0])), (q_1, .inl (k_2, 300, .inl (fun _ => 0)))] H := hP
  have hD : va_D A [(k0, .inr (2, [.null, .null, .null, .null, .int 0, .int 0, .int 0])), (q_1, .inl (k_2, 300, .inl (fun _ => 0)))] := hD
  have hK : va_K (dC, dI) vwCl [(k_2, .int)] s := hK
  refine W.widen (k := 1) (n := 300) (by omega) (by omega) ?_
  refine va_putF (D := (dC, dI)) (ci := 2) (v := .ref q_1) (ty := .array .int) (C := RX1) (T := TX1) (N := 7) hx hb hts (by decide +kernel) tyX1 tyX1_ok nmX1 hown hK hP hD hS 0 rfl rfl 0 (by decide) (hts (.fieldLink RX1 9 "CobolDebugger$Kept" "numbers" "[I") (by decide +kernel)) (fun _ h9 => h9) rfl hin rfl (by decide +kernel) rfl rfl (Nat.le_of_ble_eq_true rfl) dX1_init_10 (fun H locs hP hD hS => ?_)
  have hP : va_P (dC, dI) vwCl [(k0, .inr (2, [.ref q_1, .null, .null, .null, .int 0, .int 0, .int 0])), (q_1, .inl (k_2, 300, .inl (fun _ => 0)))] H := hP
  have hD : va_D A [(k0, .inr (2, [.ref q_1, .null, .null, .null, .int 0, .int 0, .int 0])), (q_1, .inl (k_2, 300, .inl (fun _ => 0)))] := hD
  refine lv_aload_n hx hb dX1_init_13 rfl (lv_at hl 0 rfl) ?_
  refine lv_sipush (v := 300) hx hb dX1_init_14 (by decide) ?_
  refine va_newa (atype := .int) (ty := .int) (N' := 300) (a0 := (300, .inl (fun _ => 0))) hx hb (hts (.arrayClass .int) (by decide +kernel)) rfl hK hP hD hS hA (fun _ => rfl) (by decide) (by decide) (Nat.le_of_ble_eq_true rfl) (Nat.le_of_ble_eq_true rfl) (Nat.le_of_ble_eq_true rfl) dX1_init_17 (fun q_3 k_4 H hK hP hD hS => ?_)
  have hP : va_P (dC, dI) vwCl [(k0, .inr (2, [.ref q_1, .null, .null, .null, .int 0, .int 0, .int 0])), (q_1, .inl (k_2, 300, .inl (fun _ => 0))), (q_3, .inl (k_4, 300, .inl (fun _ => 0)))] H := hP
  have hD : va_D A [(k0, .inr (2, [.ref q_1, .null, .null, .null, .int 0, .int 0, .int 0])), (q_1, .inl (k_2, 300, .inl (fun _ => 0))), (q_3, .inl (k_4, 300, .inl (fun _ => 0)))] := hD
  have hK : va_K (dC, dI) vwCl [(k_2, .int), (k_4, .int)] s := hK
  refine W.widen (k := 2) (n := 600) (by omega) (by omega) ?_
  refine va_putF (D := (dC, dI)) (ci := 2) (v := .ref q_3) (ty := .array .int) (C := RX1) (T := TX1) (N := 7) hx hb hts (by decide +kernel) tyX1 tyX1_ok nmX1 hown hK hP hD hS 0 rfl rfl 1 (by decide) (hts (.fieldLink RX1 13 "CobolDebugger$Kept" "itemsOf" "[I") (by decide +kernel)) (fun _ h9 => h9) rfl hin rfl (by decide +kernel) rfl rfl (Nat.le_of_ble_eq_true rfl) dX1_init_19 (fun H locs hP hD hS => ?_)
  have hP : va_P (dC, dI) vwCl [(k0, .inr (2, [.ref q_1, .ref q_3, .null, .null, .int 0, .int 0, .int 0])), (q_1, .inl (k_2, 300, .inl (fun _ => 0))), (q_3, .inl (k_4, 300, .inl (fun _ => 0)))] H := hP
  have hD : va_D A [(k0, .inr (2, [.ref q_1, .ref q_3, .null, .null, .int 0, .int 0, .int 0])), (q_1, .inl (k_2, 300, .inl (fun _ => 0))), (q_3, .inl (k_4, 300, .inl (fun _ => 0)))] := hD
  refine lv_aload_n hx hb dX1_init_22 rfl (lv_at hl 0 rfl) ?_
  refine lv_sipush (v := 2700) hx hb dX1_init_23 (by decide) ?_
  refine va_newa (atype := .byte) (ty := .byte) (N' := 2700) (a0 := (2700, .inl (fun _ => 0))) hx hb (hts (.arrayClass .byte) (by decide +kernel)) rfl hK hP hD hS hA (fun _ => rfl) (by decide) (by decide) (Nat.le_of_ble_eq_true rfl) (Nat.le_of_ble_eq_true rfl) (Nat.le_of_ble_eq_true rfl) dX1_init_26 (fun q_5 k_6 H hK hP hD hS => ?_)
  have hP : va_P (dC, dI) vwCl [(k0, .inr (2, [.ref q_1, .ref q_3, .null, .null, .int 0, .int 0, .int 0])), (q_1, .inl (k_2, 300, .inl (fun _ => 0))), (q_3, .inl (k_4, 300, .inl (fun _ => 0))), (q_5, .inl (k_6, 2700, .inl (fun _ => 0)))] H := hP
  have hD : va_D A [(k0, .inr (2, [.ref q_1, .ref q_3, .null, .null, .int 0, .int 0, .int 0])), (q_1, .inl (k_2, 300, .inl (fun _ => 0))), (q_3, .inl (k_4, 300, .inl (fun _ => 0))), (q_5, .inl (k_6, 2700, .inl (fun _ => 0)))] := hD
  have hK : va_K (dC, dI) vwCl [(k_2, .int), (k_4, .int), (k_6, .byte)] s := hK
  refine W.widen (k := 3) (n := 3300) (by omega) (by omega) ?_
  refine va_putF (D := (dC, dI)) (ci := 2) (v := .ref q_5) (ty := .array .byte) (C := RX1) (T := TX1) (N := 7) hx hb hts (by decide +kernel) tyX1 tyX1_ok nmX1 hown hK hP hD hS 0 rfl rfl 2 (by decide) (hts (.fieldLink RX1 18 "CobolDebugger$Kept" "bytes" "[B") (by decide +kernel)) (fun _ h9 => h9) rfl hin rfl (by decide +kernel) rfl rfl (Nat.le_of_ble_eq_true rfl) dX1_init_28 (fun H locs hP hD hS => ?_)
  have hP : va_P (dC, dI) vwCl [(k0, .inr (2, [.ref q_1, .ref q_3, .ref q_5, .null, .int 0, .int 0, .int 0])), (q_1, .inl (k_2, 300, .inl (fun _ => 0))), (q_3, .inl (k_4, 300, .inl (fun _ => 0))), (q_5, .inl (k_6, 2700, .inl (fun _ => 0)))] H := hP
  have hD : va_D A [(k0, .inr (2, [.ref q_1, .ref q_3, .ref q_5, .null, .int 0, .int 0, .int 0])), (q_1, .inl (k_2, 300, .inl (fun _ => 0))), (q_3, .inl (k_4, 300, .inl (fun _ => 0))), (q_5, .inl (k_6, 2700, .inl (fun _ => 0)))] := hD
  refine lv_aload_n hx hb dX1_init_31 rfl (lv_at hl 0 rfl) ?_
  refine lv_sipush (v := 300) hx hb dX1_init_32 (by decide) ?_
  refine va_newa (atype := .int) (ty := .int) (N' := 300) (a0 := (300, .inl (fun _ => 0))) hx hb (hts (.arrayClass .int) (by decide +kernel)) rfl hK hP hD hS hA (fun _ => rfl) (by decide) (by decide) (Nat.le_of_ble_eq_true rfl) (Nat.le_of_ble_eq_true rfl) (Nat.le_of_ble_eq_true rfl) dX1_init_35 (fun q_7 k_8 H hK hP hD hS => ?_)
  have hP : va_P (dC, dI) vwCl [(k0, .inr (2, [.ref q_1, .ref q_3, .ref q_5, .null, .int 0, .int 0, .int 0])), (q_1, .inl (k_2, 300, .inl (fun _ => 0))), (q_3, .inl (k_4, 300, .inl (fun _ => 0))), (q_5, .inl (k_6, 2700, .inl (fun _ => 0))), (q_7, .inl (k_8, 300, .inl (fun _ => 0)))] H := hP
  have hD : va_D A [(k0, .inr (2, [.ref q_1, .ref q_3, .ref q_5, .null, .int 0, .int 0, .int 0])), (q_1, .inl (k_2, 300, .inl (fun _ => 0))), (q_3, .inl (k_4, 300, .inl (fun _ => 0))), (q_5, .inl (k_6, 2700, .inl (fun _ => 0))), (q_7, .inl (k_8, 300, .inl (fun _ => 0)))] := hD
  have hK : va_K (dC, dI) vwCl [(k_2, .int), (k_4, .int), (k_6, .byte), (k_8, .int)] s := hK
  refine W.widen (k := 4) (n := 3600) (by omega) (by omega) ?_
  refine va_putF (D := (dC, dI)) (ci := 2) (v := .ref q_7) (ty := .array .int) (C := RX1) (T := TX1) (N := 7) hx hb hts (by decide +kernel) tyX1 tyX1_ok nmX1 hown hK hP hD hS 0 rfl rfl 3 (by decide) (hts (.fieldLink RX1 22 "CobolDebugger$Kept" "lefts" "[I") (by decide +kernel)) (fun _ h9 => h9) rfl hin rfl (by decide +kernel) rfl rfl (Nat.le_of_ble_eq_true rfl) dX1_init_37 (fun H locs hP hD hS => ?_)
  have hP : va_P (dC, dI) vwCl [(k0, .inr (2, [.ref q_1, .ref q_3, .ref q_5, .ref q_7, .int 0, .int 0, .int 0])), (q_1, .inl (k_2, 300, .inl (fun _ => 0))), (q_3, .inl (k_4, 300, .inl (fun _ => 0))), (q_5, .inl (k_6, 2700, .inl (fun _ => 0))), (q_7, .inl (k_8, 300, .inl (fun _ => 0)))] H := hP
  have hD : va_D A [(k0, .inr (2, [.ref q_1, .ref q_3, .ref q_5, .ref q_7, .int 0, .int 0, .int 0])), (q_1, .inl (k_2, 300, .inl (fun _ => 0))), (q_3, .inl (k_4, 300, .inl (fun _ => 0))), (q_5, .inl (k_6, 2700, .inl (fun _ => 0))), (q_7, .inl (k_8, 300, .inl (fun _ => 0)))] := hD
  refine W.widen (k := 4) (n := 3600) (Nat.le_of_ble_eq_true rfl) (Nat.le_of_ble_eq_true rfl) ?_
  exact W.vret hx hb hr (fun t ht hW => ⟨⟨(fun k => [q_1, q_3, q_5, q_7].getD k 0, fun k => [k_2, k_4, k_6, k_8].getD k 0), rfl, trivial, by rw [ht]; exact hP, va_K.moved hW.alike hK, hD⟩, hS.F ht⟩) hS.2.2 dX1_init_40

set_option maxHeartbeats 4000000 in
set_option maxRecDepth 100000 in
theorem c_X2_init (l : Launch) (dC : Nat → ClassId) (dI : Nat → Nat → Nat) (sz : Nat) (p0 : Nat) : Met l yX2_init wsX2_init ({ frames := 1, cells := 4, slots := 680, locals := 12 }) (va_Pc [.ref p0] (fun U => U.heap.size = sz ∧ va_P (dC, dI) vwCl [(p0, .inr (3, [.null, .null, .int 0, .null, .null, .int 0]))] U.heap ∧ va_K (dC, dI) vwCl [] U ∧ va_D (fun _ => True) [(p0, .inr (3, [.null, .null, .int 0, .null, .null, .int 0]))])) (va_Qv (fun (u : (Nat → Nat) × (Nat → ClassId)) => True) (fun (u : (Nat → Nat) × (Nat → ClassId)) (t : State) => va_P (dC, dI) vwCl [(p0, .inr (3, [.ref (u.1 0), .ref (u.1 1), .int 0, .ref (u.1 2), .ref (u.1 3), .int 0])), (u.1 0, .inl (u.2 0, 20, .inl (fun _ => 0))), (u.1 1, .inl (u.2 1, 20, .inl (fun _ => 0))), (u.1 2, .inl (u.2 2, 320, .inl (fun _ => 0))), (u.1 3, .inl (u.2 3, 320, .inl (fun _ => 0)))] t.heap ∧ va_K (dC, dI) vwCl [(u.2 0, .int), (u.2 1, .int), (u.2 2, .int), (u.2 3, .int)] t ∧ va_D (va_A [(p0, .inr (3, [.null, .null, .int 0, .null, .null, .int 0]))] sz) [(p0, .inr (3, [.ref (u.1 0), .ref (u.1 1), .int 0, .ref (u.1 2), .ref (u.1 3), .int 0])), (u.1 0, .inl (u.2 0, 20, .inl (fun _ => 0))), (u.1 1, .inl (u.2 1, 20, .inl (fun _ => 0))), (u.1 2, .inl (u.2 2, 320, .inl (fun _ => 0))), (u.1 3, .inl (u.2 3, 320, .inl (fun _ => 0)))]) (va_A [(p0, .inr (3, [.null, .null, .int 0, .null, .null, .int 0]))] sz)) 4 680 (va_A [(p0, .inr (3, [.null, .null, .int 0, .null, .null, .int 0]))] sz) := by
  refine Met.ofW (cc := cX2_init) (maxL := 1) (ret := none) (by decide) rfl ?_
  intro p e s m args below meth c s₁ B hml hv
  obtain ⟨rfl, hsz, hP, hK, hD0⟩ := hv
  have hx := B.exec
  have hb := B.bytes
  have hr := B.returns
  have hts := atoms_spec (ws := wsX2_init) B.pre
  have hown : s.vm.findClass RX2 = some m.cls := findClass_of_methodNamed B.named
  have hlocks := B.notSynchronized
  have hin : meth.name = "<init>" := (name_of_methodNamed B.named B.method).1
  subst hsz
  have hD := hD0.self (sz := s.heap.size)
  generalize hAe : va_A [(p0, .inr (3, [.null, .null, .int 0, .null, .null, .int 0]))] s.heap.size = A at hD ⊢
  have hA : ∀ q : Nat, s.heap.size ≤ q → A q := fun q h => by rw [← hAe]; exact Or.inr h
  have hS : va_S A s.heap s.heap [] := va_S.rf
  have hl := lv_entry ([.ref p0]) (n := 1) (Nat.le_of_ble_eq_true rfl)
  rw [lg_entry_eq]
  generalize (lg_sl ([.ref p0]) ++ List.replicate (1 - (lg_sl ([.ref p0])).length) Slot.unset).toArray = ls at hl ⊢
  have hl : lv_has ls 1 [(0, .ref p0)] := hl
  refine lv_aload_n hx hb dX2_init_0 rfl (lv_at hl 0 rfl) ?_
  refine W.objInit hx hb hown (hts (.methodLink RX2 5 objectInit) (by decide +kernel)) (hts (.instanceMethod objectInit) (by decide +kernel)) (hts (.code objectInit ⟨#[0xb1]⟩ 1 none) (by decide +kernel)) rfl (by rw [hml]; exact hl.1) rfl dX2_init_1 (Nat.le_of_ble_eq_true rfl) (Nat.le_of_ble_eq_true rfl) ?_
  refine W.eq (g2 := F0 m 4 ls []) rfl ?_
  refine lv_aload_n hx hb dX2_init_4 rfl (lv_at hl 0 rfl) ?_
  refine lv_bipush (v := 20) hx hb dX2_init_5 (by decide) ?_
  refine va_newa (atype := .int) (ty := .int) (N' := 20) (a0 := (20, .inl (fun _ => 0))) hx hb (hts (.arrayClass .int) (by decide +kernel)) rfl hK hP hD hS hA (fun _ => rfl) (by decide) (by decide) (Nat.le_of_ble_eq_true rfl) (Nat.le_of_ble_eq_true rfl) (Nat.le_of_ble_eq_true rfl) dX2_init_7 (fun q_1 k_2 H hK hP hD hS => ?_)
  have hP : va_P (dC, dI) vwCl [(p0, .inr (3, [.null, .null, .int 0, .null, .null, .int 0])), (q_1, .inl (k_2, 20, .inl (fun _ => 0)))] H := hP
  have hD : va_D A [(p0, .inr (3, [.null, .null, .int 0, .null, .null, .int 0])), (q_1, .inl (k_2, 20, .inl (fun _ => 0)))] := hD
  have hK : va_K (dC, dI) vwCl [(k_2, .int)] s := hK
  refine W.widen (k := 1) (n := 20) (by omega) (by omega) ?_
  refine va_putF (D := (dC, dI)) (ci := 3) (v := .ref q_1) (ty := .array .int) (C := RX2) (T := TX2) (N := 6) hx hb hts (by decide +kernel) tyX2 tyX2_ok nmX2 hown hK hP hD hS 0 rfl rfl 0 (by decide) (hts (.fieldLink RX2 11 "CobolDebugger$Performings" "performers" "[I") (by decide +kernel)) (fun _ h9 => h9) rfl hin rfl (by decide +kernel) rfl rfl (Nat.le_of_ble_eq_true rfl) dX2_init_9 (fun H locs hP hD hS => ?_)
  have hP : va_P (dC, dI) vwCl [(p0, .inr (3, [.ref q_1, .null, .int 0, .null, .null, .int 0])), (q_1, .inl (k_2, 20, .inl (fun _ => 0)))] H := hP
  have hD : va_D A [(p0, .inr (3, [.ref q_1, .null, .int 0, .null, .null, .int 0])), (q_1, .inl (k_2, 20, .inl (fun _ => 0)))] := hD
  refine lv_aload_n hx hb dX2_init_12 rfl (lv_at hl 0 rfl) ?_
  refine lv_bipush (v := 20) hx hb dX2_init_13 (by decide) ?_
  refine va_newa (atype := .int) (ty := .int) (N' := 20) (a0 := (20, .inl (fun _ => 0))) hx hb (hts (.arrayClass .int) (by decide +kernel)) rfl hK hP hD hS hA (fun _ => rfl) (by decide) (by decide) (Nat.le_of_ble_eq_true rfl) (Nat.le_of_ble_eq_true rfl) (Nat.le_of_ble_eq_true rfl) dX2_init_15 (fun q_3 k_4 H hK hP hD hS => ?_)
  have hP : va_P (dC, dI) vwCl [(p0, .inr (3, [.ref q_1, .null, .int 0, .null, .null, .int 0])), (q_1, .inl (k_2, 20, .inl (fun _ => 0))), (q_3, .inl (k_4, 20, .inl (fun _ => 0)))] H := hP
  have hD : va_D A [(p0, .inr (3, [.ref q_1, .null, .int 0, .null, .null, .int 0])), (q_1, .inl (k_2, 20, .inl (fun _ => 0))), (q_3, .inl (k_4, 20, .inl (fun _ => 0)))] := hD
  have hK : va_K (dC, dI) vwCl [(k_2, .int), (k_4, .int)] s := hK
  refine W.widen (k := 2) (n := 40) (by omega) (by omega) ?_
  refine va_putF (D := (dC, dI)) (ci := 3) (v := .ref q_3) (ty := .array .int) (C := RX2) (T := TX2) (N := 6) hx hb hts (by decide +kernel) tyX2 tyX2_ok nmX2 hown hK hP hD hS 0 rfl rfl 1 (by decide) (hts (.fieldLink RX2 15 "CobolDebugger$Performings" "ends" "[I") (by decide +kernel)) (fun _ h9 => h9) rfl hin rfl (by decide +kernel) rfl rfl (Nat.le_of_ble_eq_true rfl) dX2_init_17 (fun H locs hP hD hS => ?_)
  have hP : va_P (dC, dI) vwCl [(p0, .inr (3, [.ref q_1, .ref q_3, .int 0, .null, .null, .int 0])), (q_1, .inl (k_2, 20, .inl (fun _ => 0))), (q_3, .inl (k_4, 20, .inl (fun _ => 0)))] H := hP
  have hD : va_D A [(p0, .inr (3, [.ref q_1, .ref q_3, .int 0, .null, .null, .int 0])), (q_1, .inl (k_2, 20, .inl (fun _ => 0))), (q_3, .inl (k_4, 20, .inl (fun _ => 0)))] := hD
  refine lv_aload_n hx hb dX2_init_20 rfl (lv_at hl 0 rfl) ?_
  refine lv_sipush (v := 320) hx hb dX2_init_21 (by decide) ?_
  refine va_newa (atype := .int) (ty := .int) (N' := 320) (a0 := (320, .inl (fun _ => 0))) hx hb (hts (.arrayClass .int) (by decide +kernel)) rfl hK hP hD hS hA (fun _ => rfl) (by decide) (by decide) (Nat.le_of_ble_eq_true rfl) (Nat.le_of_ble_eq_true rfl) (Nat.le_of_ble_eq_true rfl) dX2_init_24 (fun q_5 k_6 H hK hP hD hS => ?_)
  have hP : va_P (dC, dI) vwCl [(p0, .inr (3, [.ref q_1, .ref q_3, .int 0, .null, .null, .int 0])), (q_1, .inl (k_2, 20, .inl (fun _ => 0))), (q_3, .inl (k_4, 20, .inl (fun _ => 0))), (q_5, .inl (k_6, 320, .inl (fun _ => 0)))] H := hP
  have hD : va_D A [(p0, .inr (3, [.ref q_1, .ref q_3, .int 0, .null, .null, .int 0])), (q_1, .inl (k_2, 20, .inl (fun _ => 0))), (q_3, .inl (k_4, 20, .inl (fun _ => 0))), (q_5, .inl (k_6, 320, .inl (fun _ => 0)))] := hD
  have hK : va_K (dC, dI) vwCl [(k_2, .int), (k_4, .int), (k_6, .int)] s := hK
  refine W.widen (k := 3) (n := 360) (by omega) (by omega) ?_
  refine va_putF (D := (dC, dI)) (ci := 3) (v := .ref q_5) (ty := .array .int) (C := RX2) (T := TX2) (N := 6) hx hb hts (by decide +kernel) tyX2 tyX2_ok nmX2 hown hK hP hD hS 0 rfl rfl 3 (by decide) (hts (.fieldLink RX2 18 "CobolDebugger$Performings" "leftPerformers" "[I") (by decide +kernel)) (fun _ h9 => h9) rfl hin rfl (by decide +kernel) rfl rfl (Nat.le_of_ble_eq_true rfl) dX2_init_26 (fun H locs hP hD hS => ?_)
  have hP : va_P (dC, dI) vwCl [(p0, .inr (3, [.ref q_1, .ref q_3, .int 0, .ref q_5, .null, .int 0])), (q_1, .inl (k_2, 20, .inl (fun _ => 0))), (q_3, .inl (k_4, 20, .inl (fun _ => 0))), (q_5, .inl (k_6, 320, .inl (fun _ => 0)))] H := hP
  have hD : va_D A [(p0, .inr (3, [.ref q_1, .ref q_3, .int 0, .ref q_5, .null, .int 0])), (q_1, .inl (k_2, 20, .inl (fun _ => 0))), (q_3, .inl (k_4, 20, .inl (fun _ => 0))), (q_5, .inl (k_6, 320, .inl (fun _ => 0)))] := hD
  refine lv_aload_n hx hb dX2_init_29 rfl (lv_at hl 0 rfl) ?_
  refine lv_sipush (v := 320) hx hb dX2_init_30 (by decide) ?_
  refine va_newa (atype := .int) (ty := .int) (N' := 320) (a0 := (320, .inl (fun _ => 0))) hx hb (hts (.arrayClass .int) (by decide +kernel)) rfl hK hP hD hS hA (fun _ => rfl) (by decide) (by decide) (Nat.le_of_ble_eq_true rfl) (Nat.le_of_ble_eq_true rfl) (Nat.le_of_ble_eq_true rfl) dX2_init_33 (fun q_7 k_8 H hK hP hD hS => ?_)
  have hP : va_P (dC, dI) vwCl [(p0, .inr (3, [.ref q_1, .ref q_3, .int 0, .ref q_5, .null, .int 0])), (q_1, .inl (k_2, 20, .inl (fun _ => 0))), (q_3, .inl (k_4, 20, .inl (fun _ => 0))), (q_5, .inl (k_6, 320, .inl (fun _ => 0))), (q_7, .inl (k_8, 320, .inl (fun _ => 0)))] H := hP
  have hD : va_D A [(p0, .inr (3, [.ref q_1, .ref q_3, .int 0, .ref q_5, .null, .int 0])), (q_1, .inl (k_2, 20, .inl (fun _ => 0))), (q_3, .inl (k_4, 20, .inl (fun _ => 0))), (q_5, .inl (k_6, 320, .inl (fun _ => 0))), (q_7, .inl (k_8, 320, .inl (fun _ => 0)))] := hD
  have hK : va_K (dC, dI) vwCl [(k_2, .int), (k_4, .int), (k_6, .int), (k_8, .int)] s := hK
  refine W.widen (k := 4) (n := 680) (by omega) (by omega) ?_
  refine va_putF (D := (dC, dI)) (ci := 3) (v := .ref q_7) (ty := .array .int) (C := RX2) (T := TX2) (N := 6) hx hb hts (by decide +kernel) tyX2 tyX2_ok nmX2 hown hK hP hD hS 0 rfl rfl 4 (by decide) (hts (.fieldLink RX2 21 "CobolDebugger$Performings" "leftEnds" "[I") (by decide +kernel)) (fun _ h9 => h9) rfl hin rfl (by decide +kernel) rfl rfl (Nat.le_of_ble_eq_true rfl) dX2_init_35 (fun H locs hP hD hS => ?_)
  have hP : va_P (dC, dI) vwCl [(p0, .inr (3, [.ref q_1, .ref q_3, .int 0, .ref q_5, .ref q_7, .int 0])), (q_1, .inl (k_2, 20, .inl (fun _ => 0))), (q_3, .inl (k_4, 20, .inl (fun _ => 0))), (q_5, .inl (k_6, 320, .inl (fun _ => 0))), (q_7, .inl (k_8, 320, .inl (fun _ => 0)))] H := hP
  have hD : va_D A [(p0, .inr (3, [.ref q_1, .ref q_3, .int 0, .ref q_5, .ref q_7, .int 0])), (q_1, .inl (k_2, 20, .inl (fun _ => 0))), (q_3, .inl (k_4, 20, .inl (fun _ => 0))), (q_5, .inl (k_6, 320, .inl (fun _ => 0))), (q_7, .inl (k_8, 320, .inl (fun _ => 0)))] := hD
  refine W.widen (k := 4) (n := 680) (Nat.le_of_ble_eq_true rfl) (Nat.le_of_ble_eq_true rfl) ?_
  exact W.vret hx hb hr (fun t ht hW => ⟨⟨(fun k => [q_1, q_3, q_5, q_7].getD k 0, fun k => [k_2, k_4, k_6, k_8].getD k 0), rfl, trivial, by rw [ht]; exact hP, va_K.moved hW.alike hK, hD⟩, hS.F ht⟩) hS.2.2 dX2_init_38

set_option maxHeartbeats 4000000 in
set_option maxRecDepth 100000 in
theorem c_X3_init (l : Launch) (dC : Nat → ClassId) (dI : Nat → Nat → Nat) (sz : Nat) (b0 : Nat) : Met l yX3_init wsX3_init ({ frames := 1, cells := 3, slots := 60, locals := 12 }) (va_Pc [.ref b0] (fun U => U.heap.size = sz ∧ va_P (dC, dI) vwCl [(b0, .inr (4, [.null, .null, .null, .int 0]))] U.heap ∧ va_K (dC, dI) vwCl [] U ∧ va_D (fun _ => True) [(b0, .inr (4, [.null, .null, .null, .int 0]))])) (va_Qv (fun (u : (Nat → Nat) × (Nat → ClassId)) => True) (fun (u : (Nat → Nat) × (Nat → ClassId)) (t : State) => va_P (dC, dI) vwCl [(b0, .inr (4, [.ref (u.1 0), .ref (u.1 1), .ref (u.1 2), .int 0])), (u.1 0, .inl (u.2 0, 20, .inl (fun _ => 0))), (u.1 1, .inl (u.2 1, 20, .inl (fun _ => 0))), (u.1 2, .inl (u.2 2, 20, .inl (fun _ => 0)))] t.heap ∧ va_K (dC, dI) vwCl [(u.2 0, .int), (u.2 1, .int), (u.2 2, .int)] t ∧ va_D (va_A [(b0, .inr (4, [.null, .null, .null, .int 0]))] sz) [(b0, .inr (4, [.ref (u.1 0), .ref (u.1 1), .ref (u.1 2), .int 0])), (u.1 0, .inl (u.2 0, 20, .inl (fun _ => 0))), (u.1 1, .inl (u.2 1, 20, .inl (fun _ => 0))), (u.1 2, .inl (u.2 2, 20, .inl (fun _ => 0)))]) (va_A [(b0, .inr (4, [.null, .null, .null, .int 0]))] sz)) 3 60 (va_A [(b0, .inr (4, [.null, .null, .null, .int 0]))] sz) := by
  refine Met.ofW (cc := cX3_init) (maxL := 1) (ret := none) (by decide) rfl ?_
  intro p e s m args below meth c s₁ B hml hv
  obtain ⟨rfl, hsz, hP, hK, hD0⟩ := hv
  have hx := B.exec
  have hb := B.bytes
  have hr := B.returns
  have hts := atoms_spec (ws := wsX3_init) B.pre
  have hown : s.vm.findClass RX3 = some m.cls := findClass_of_methodNamed B.named
  have hlocks := B.notSynchronized
  have hin : meth.name = "<init>" := (name_of_methodNamed B.named B.method).1
  subst hsz
  have hD := hD0.self (sz := s.heap.size)
  generalize hAe : va_A [(b0, .inr (4, [.null, .null, .null, .int 0]))] s.heap.size = A at hD ⊢
  have hA : ∀ q : Nat, s.heap.size ≤ q → A q := fun q h => by rw [← hAe]; exact Or.inr h
  have hS : va_S A s.heap s.heap [] := va_S.rf
  have hl := lv_entry ([.ref b0]) (n := 1) (Nat.le_of_ble_eq_true rfl)
  rw [lg_entry_eq]
  generalize (lg_sl ([.ref b0]) ++ List.replicate (1 - (lg_sl ([.ref b0])).length) Slot.unset).toArray = ls at hl ⊢
  have hl : lv_has ls 1 [(0, .ref b0)] := hl
  refine lv_aload_n hx hb dX3_init_0 rfl (lv_at hl 0 rfl) ?_
  refine W.objInit hx hb hown (hts (.methodLink RX3 3 objectInit) (by decide +kernel)) (hts (.instanceMethod objectInit) (by decide +kernel)) (hts (.code objectInit ⟨#[0xb1]⟩ 1 none) (by decide +kernel)) rfl (by rw [hml]; exact hl.1) rfl dX3_init_1 (Nat.le_of_ble_eq_true rfl) (Nat.le_of_ble_eq_true rfl) ?_
  refine W.eq (g2 := F0 m 4 ls []) rfl ?_
  refine lv_aload_n hx hb dX3_init_4 rfl (lv_at hl 0 rfl) ?_
  refine lv_bipush (v := 20) hx hb dX3_init_5 (by decide) ?_
  refine va_newa (atype := .int) (ty := .int) (N' := 20) (a0 := (20, .inl (fun _ => 0))) hx hb (hts (.arrayClass .int) (by decide +kernel)) rfl hK hP hD hS hA (fun _ => rfl) (by decide) (by decide) (Nat.le_of_ble_eq_true rfl) (Nat.le_of_ble_eq_true rfl) (Nat.le_of_ble_eq_true rfl) dX3_init_7 (fun q_1 k_2 H hK hP hD hS => ?_)
  have hP : va_P (dC, dI) vwCl [(b0, .inr (4, [.null, .null, .null, .int 0])), (q_1, .inl (k_2, 20, .inl (fun _ => 0)))] H := hP
  have hD : va_D A [(b0, .inr (4, [.null, .null, .null, .int 0])), (q_1, .inl (k_2, 20, .inl (fun _ => 0)))] := hD
  have hK : va_K (dC, dI) vwCl [(k_2, .int)] s := hK
  refine W.widen (k := 1) (n := 20) (by omega) (by omega) ?_
  refine va_putF (D := (dC, dI)) (ci := 4) (v := .ref q_1) (ty := .array .int) (C := RX3) (T := TX3) (N := 4) hx hb hts (by decide +kernel) tyX3 tyX3_ok nmX3 hown hK hP hD hS 0 rfl rfl 0 (by decide) (hts (.fieldLink RX3 11 "CobolDebugger$Stops" "kinds" "[I") (by decide +kernel)) (fun _ h9 => h9) rfl hin rfl (by decide +kernel) rfl rfl (Nat.le_of_ble_eq_true rfl) dX3_init_9 (fun H locs hP hD hS => ?_)
  have hP : va_P (dC, dI) vwCl [(b0, .inr (4, [.ref q_1, .null, .null, .int 0])), (q_1, .inl (k_2, 20, .inl (fun _ => 0)))] H := hP
  have hD : va_D A [(b0, .inr (4, [.ref q_1, .null, .null, .int 0])), (q_1, .inl (k_2, 20, .inl (fun _ => 0)))] := hD
  refine lv_aload_n hx hb dX3_init_12 rfl (lv_at hl 0 rfl) ?_
  refine lv_bipush (v := 20) hx hb dX3_init_13 (by decide) ?_
  refine va_newa (atype := .int) (ty := .int) (N' := 20) (a0 := (20, .inl (fun _ => 0))) hx hb (hts (.arrayClass .int) (by decide +kernel)) rfl hK hP hD hS hA (fun _ => rfl) (by decide) (by decide) (Nat.le_of_ble_eq_true rfl) (Nat.le_of_ble_eq_true rfl) (Nat.le_of_ble_eq_true rfl) dX3_init_15 (fun q_3 k_4 H hK hP hD hS => ?_)
  have hP : va_P (dC, dI) vwCl [(b0, .inr (4, [.ref q_1, .null, .null, .int 0])), (q_1, .inl (k_2, 20, .inl (fun _ => 0))), (q_3, .inl (k_4, 20, .inl (fun _ => 0)))] H := hP
  have hD : va_D A [(b0, .inr (4, [.ref q_1, .null, .null, .int 0])), (q_1, .inl (k_2, 20, .inl (fun _ => 0))), (q_3, .inl (k_4, 20, .inl (fun _ => 0)))] := hD
  have hK : va_K (dC, dI) vwCl [(k_2, .int), (k_4, .int)] s := hK
  refine W.widen (k := 2) (n := 40) (by omega) (by omega) ?_
  refine va_putF (D := (dC, dI)) (ci := 4) (v := .ref q_3) (ty := .array .int) (C := RX3) (T := TX3) (N := 4) hx hb hts (by decide +kernel) tyX3 tyX3_ok nmX3 hown hK hP hD hS 0 rfl rfl 1 (by decide) (hts (.fieldLink RX3 15 "CobolDebugger$Stops" "ofs" "[I") (by decide +kernel)) (fun _ h9 => h9) rfl hin rfl (by decide +kernel) rfl rfl (Nat.le_of_ble_eq_true rfl) dX3_init_17 (fun H locs hP hD hS => ?_)
  have hP : va_P (dC, dI) vwCl [(b0, .inr (4, [.ref q_1, .ref q_3, .null, .int 0])), (q_1, .inl (k_2, 20, .inl (fun _ => 0))), (q_3, .inl (k_4, 20, .inl (fun _ => 0)))] H := hP
  have hD : va_D A [(b0, .inr (4, [.ref q_1, .ref q_3, .null, .int 0])), (q_1, .inl (k_2, 20, .inl (fun _ => 0))), (q_3, .inl (k_4, 20, .inl (fun _ => 0)))] := hD
  refine lv_aload_n hx hb dX3_init_20 rfl (lv_at hl 0 rfl) ?_
  refine lv_bipush (v := 20) hx hb dX3_init_21 (by decide) ?_
  refine va_newa (atype := .int) (ty := .int) (N' := 20) (a0 := (20, .inl (fun _ => 0))) hx hb (hts (.arrayClass .int) (by decide +kernel)) rfl hK hP hD hS hA (fun _ => rfl) (by decide) (by decide) (Nat.le_of_ble_eq_true rfl) (Nat.le_of_ble_eq_true rfl) (Nat.le_of_ble_eq_true rfl) dX3_init_23 (fun q_5 k_6 H hK hP hD hS => ?_)
  have hP : va_P (dC, dI) vwCl [(b0, .inr (4, [.ref q_1, .ref q_3, .null, .int 0])), (q_1, .inl (k_2, 20, .inl (fun _ => 0))), (q_3, .inl (k_4, 20, .inl (fun _ => 0))), (q_5, .inl (k_6, 20, .inl (fun _ => 0)))] H := hP
  have hD : va_D A [(b0, .inr (4, [.ref q_1, .ref q_3, .null, .int 0])), (q_1, .inl (k_2, 20, .inl (fun _ => 0))), (q_3, .inl (k_4, 20, .inl (fun _ => 0))), (q_5, .inl (k_6, 20, .inl (fun _ => 0)))] := hD
  have hK : va_K (dC, dI) vwCl [(k_2, .int), (k_4, .int), (k_6, .int)] s := hK
  refine W.widen (k := 3) (n := 60) (by omega) (by omega) ?_
  refine va_putF (D := (dC, dI)) (ci := 4) (v := .ref q_5) (ty := .array .int) (C := RX3) (T := TX3) (N := 4) hx hb hts (by decide +kernel) tyX3 tyX3_ok nmX3 hown hK hP hD hS 0 rfl rfl 2 (by decide) (hts (.fieldLink RX3 18 "CobolDebugger$Stops" "conditions" "[I") (by decide +kernel)) (fun _ h9 => h9) rfl hin rfl (by decide +kernel) rfl rfl (Nat.le_of_ble_eq_true rfl) dX3_init_25 (fun H locs hP hD hS => ?_)
  have hP : va_P (dC, dI) vwCl [(b0, .inr (4, [.ref q_1, .ref q_3, .ref q_5, .int 0])), (q_1, .inl (k_2, 20, .inl (fun _ => 0))), (q_3, .inl (k_4, 20, .inl (fun _ => 0))), (q_5, .inl (k_6, 20, .inl (fun _ => 0)))] H := hP
  have hD : va_D A [(b0, .inr (4, [.ref q_1, .ref q_3, .ref q_5, .int 0])), (q_1, .inl (k_2, 20, .inl (fun _ => 0))), (q_3, .inl (k_4, 20, .inl (fun _ => 0))), (q_5, .inl (k_6, 20, .inl (fun _ => 0)))] := hD
  refine W.widen (k := 3) (n := 60) (Nat.le_of_ble_eq_true rfl) (Nat.le_of_ble_eq_true rfl) ?_
  exact W.vret hx hb hr (fun t ht hW => ⟨⟨(fun k => [q_1, q_3, q_5].getD k 0, fun k => [k_2, k_4, k_6].getD k 0), rfl, trivial, by rw [ht]; exact hP, va_K.moved hW.alike hK, hD⟩, hS.F ht⟩) hS.2.2 dX3_init_28
