set_option maxHeartbeats 4000000 in
set_option maxRecDepth 100000 in
theorem c_X0_init (l : Launch) (dC : Nat → ClassId) (dI : Nat → Nat → Nat) (sz : Nat) (a0 : Nat) : Met l yX0_init wsX0_init ({ frames := 1, cells := 3, slots := 330, locals := 12 }) (va_Pc [.ref a0] (fun U => U.heap.size = sz ∧ va_P (dC, dI) vwCl [(a0, .inr (1, [.null, .null, .null, .int 0]))] U.heap ∧ va_K (dC, dI) vwCl [] U ∧ va_D (fun _ => True) [(a0, .inr (1, [.null, .null, .null, .int 0]))])) (va_Qv (fun (u : (Nat → Nat) × (Nat → ClassId)) => True) (fun (u : (Nat → Nat) × (Nat → ClassId)) (t : State) => va_P (dC, dI) vwCl [(a0, .inr (1, [.ref (u.1 0), .ref (u.1 1), .ref (u.1 2), .int 0])), (u.1 0, .inl (u.2 0, 30, .inl (fun _ => 0))), (u.1 1, .inl (u.2 1, 30, .inl (fun _ => 0))), (u.1 2, .inl (u.2 2, 270, .inl (fun _ => 0)))] t.heap ∧ va_K (dC, dI) vwCl [(u.2 0, .int), (u.2 1, .int), (u.2 2, .byte)] t ∧ va_D (va_A [(a0, .inr (1, [.null, .null, .null, .int 0]))] sz) [(a0, .inr (1, [.ref (u.1 0), .ref (u.1 1), .ref (u.1 2), .int 0])), (u.1 0, .inl (u.2 0, 30, .inl (fun _ => 0))), (u.1 1, .inl (u.2 1, 30, .inl (fun _ => 0))), (u.1 2, .inl (u.2 2, 270, .inl (fun _ => 0)))]) (va_A [(a0, .inr (1, [.null, .null, .null, .int 0]))] sz)) 3 330 (va_A [(a0, .inr (1, [.null, .null, .null, .int 0]))] sz) := by
  refine Met.ofW (cc := cX0_init) (maxL := 1) (ret := none) (by decide) rfl ?_
  intro p e s m args below meth c s₁ B hml hv
  obtain ⟨rfl, hsz, hP, hK, hD0⟩ := hv
  have hx := B.exec
  have hb := B.bytes
  have hr := B.returns
  have hts := atoms_spec (ws := wsX0_init) B.pre
  have hown : s.vm.findClass RX0 = some m.cls := findClass_of_methodNamed B.named
  have hlocks := B.notSynchronized
  have hin : meth.name = "<init>" := (name_of_methodNamed B.named B.method).1
  subst hsz
  have hD := hD0.self (sz := s.heap.size)
  generalize hAe : va_A [(a0, .inr (1, [.null, .null, .null, .int 0]))] s.heap.size = A at hD ⊢
  have hA : ∀ q : Nat, s.heap.size ≤ q → A q := fun q h => by rw [← hAe]; exact Or.inr h
  have hS : va_S A s.heap s.heap [] := va_S.rf
  have hl := lv_entry ([.ref a0]) (n := 1) (Nat.le_of_ble_eq_true rfl)
  rw [lg_entry_eq]
  generalize (lg_sl ([.ref a0]) ++ List.replicate (1 - (lg_sl ([.ref a0])).length) Slot.unset).toArray = ls at hl ⊢
  have hl : lv_has ls 1 [(0, .ref a0)] := hl
  refine lv_aload_n hx hb dX0_init_0 rfl (lv_at hl 0 rfl) ?_
  refine W.objInit hx hb hown (hts (.methodLink RX0 3 objectInit) (by decide +kernel)) (hts (.instanceMethod objectInit) (by decide +kernel)) (hts (.code objectInit ⟨#[0xb1]⟩ 1 none) (by decide +kernel)) rfl (by rw [hml]; exact hl.1) rfl dX0_init_1 (Nat.le_of_ble_eq_true rfl) (Nat.le_of_ble_eq_true rfl) ?_
  refine W.eq (g2 := F0 m 4 ls []) rfl ?_
  refine lv_aload_n hx hb dX0_init_4 rfl (lv_at hl 0 rfl) ?_
  refine lv_bipush (v := 30) hx hb dX0_init_5 (by decide) ?_
  refine va_newa (atype := .int) (ty := .int) (N' := 30) (a0 := (30, .inl (fun _ => 0))) hx hb (hts (.arrayClass .int) (by decide +kernel)) rfl hK hP hD hS hA (fun _ => rfl) (by decide) (by decide) (Nat.le_of_ble_eq_true rfl) (Nat.le_of_ble_eq_true rfl) (Nat.le_of_ble_eq_true rfl) dX0_init_7 (fun q_1 k_2 H hK hP hD hS => ?_)
  have hP : va_P (dC, dI) vwCl [(a0, .inr (1, [.null, .null, .null, .int 0])), (q_1, .inl (k_2, 30, .inl (fun _ => 0)))] H := hP
  have hD : va_D A [(a0, .inr (1, [.null, .null, .null, .int 0])), (q_1, .inl (k_2, 30, .inl (fun _ => 0)))] := hD
  have hK : va_K (dC, dI) vwCl [(k_2, .int)] s := hK
  refine W.widen (k := 1) (n := 30) (by omega) (by omega) ?_
  refine va_putF (D := (dC, dI)) (ci := 1) (v := .ref q_1) (ty := .array .int) (C := RX0) (T := TX0) (N := 4) hx hb hts (by decide +kernel) tyX0 tyX0_ok nmX0 hown hK hP hD hS 0 rfl rfl 0 (by decide) (hts (.fieldLink RX0 11 "CobolDebugger$Items" "usages" "[I") (by decide +kernel)) (fun _ h9 => h9) rfl hin rfl (by decide +kernel) rfl rfl (Nat.le_of_ble_eq_true rfl) dX0_init_9 (fun H locs hP hD hS => ?_)
  have hP : va_P (dC, dI) vwCl [(a0, .inr (1, [.ref q_1, .null, .null, .int 0])), (q_1, .inl (k_2, 30, .inl (fun _ => 0)))] H := hP
  have hD : va_D A [(a0, .inr (1, [.ref q_1, .null, .null, .int 0])), (q_1, .inl (k_2, 30, .inl (fun _ => 0)))] := hD
  refine lv_aload_n hx hb dX0_init_12 rfl (lv_at hl 0 rfl) ?_
  refine lv_bipush (v := 30) hx hb dX0_init_13 (by decide) ?_
  refine va_newa (atype := .int) (ty := .int) (N' := 30) (a0 := (30, .inl (fun _ => 0))) hx hb (hts (.arrayClass .int) (by decide +kernel)) rfl hK hP hD hS hA (fun _ => rfl) (by decide) (by decide) (Nat.le_of_ble_eq_true rfl) (Nat.le_of_ble_eq_true rfl) (Nat.le_of_ble_eq_true rfl) dX0_init_15 (fun q_3 k_4 H hK hP hD hS => ?_)
  have hP : va_P (dC, dI) vwCl [(a0, .inr (1, [.ref q_1, .null, .null, .int 0])), (q_1, .inl (k_2, 30, .inl (fun _ => 0))), (q_3, .inl (k_4, 30, .inl (fun _ => 0)))] H := hP
  have hD : va_D A [(a0, .inr (1, [.ref q_1, .null, .null, .int 0])), (q_1, .inl (k_2, 30, .inl (fun _ => 0))), (q_3, .inl (k_4, 30, .inl (fun _ => 0)))] := hD
  have hK : va_K (dC, dI) vwCl [(k_2, .int), (k_4, .int)] s := hK
  refine W.widen (k := 2) (n := 60) (by omega) (by omega) ?_
  refine va_putF (D := (dC, dI)) (ci := 1) (v := .ref q_3) (ty := .array .int) (C := RX0) (T := TX0) (N := 4) hx hb hts (by decide +kernel) tyX0 tyX0_ok nmX0 hown hK hP hD hS 0 rfl rfl 1 (by decide) (hts (.fieldLink RX0 15 "CobolDebugger$Items" "sizes" "[I") (by decide +kernel)) (fun _ h9 => h9) rfl hin rfl (by decide +kernel) rfl rfl (Nat.le_of_ble_eq_true rfl) dX0_init_17 (fun H locs hP hD hS => ?_)
  have hP : va_P (dC, dI) vwCl [(a0, .inr (1, [.ref q_1, .ref q_3, .null, .int 0])), (q_1, .inl (k_2, 30, .inl (fun _ => 0))), (q_3, .inl (k_4, 30, .inl (fun _ => 0)))] H := hP
  have hD : va_D A [(a0, .inr (1, [.ref q_1, .ref q_3, .null, .int 0])), (q_1, .inl (k_2, 30, .inl (fun _ => 0))), (q_3, .inl (k_4, 30, .inl (fun _ => 0)))] := hD
  refine lv_aload_n hx hb dX0_init_20 rfl (lv_at hl 0 rfl) ?_
  refine lv_sipush (v := 270) hx hb dX0_init_21 (by decide) ?_
  refine va_newa (atype := .byte) (ty := .byte) (N' := 270) (a0 := (270, .inl (fun _ => 0))) hx hb (hts (.arrayClass .byte) (by decide +kernel)) rfl hK hP hD hS hA (fun _ => rfl) (by decide) (by decide) (Nat.le_of_ble_eq_true rfl) (Nat.le_of_ble_eq_true rfl) (Nat.le_of_ble_eq_true rfl) dX0_init_24 (fun q_5 k_6 H hK hP hD hS => ?_)
  have hP : va_P (dC, dI) vwCl [(a0, .inr (1, [.ref q_1, .ref q_3, .null, .int 0])), (q_1, .inl (k_2, 30, .inl (fun _ => 0))), (q_3, .inl (k_4, 30, .inl (fun _ => 0))), (q_5, .inl (k_6, 270, .inl (fun _ => 0)))] H := hP
  have hD : va_D A [(a0, .inr (1, [.ref q_1, .ref q_3, .null, .int 0])), (q_1, .inl (k_2, 30, .inl (fun _ => 0))), (q_3, .inl (k_4, 30, .inl (fun _ => 0))), (q_5, .inl (k_6, 270, .inl (fun _ => 0)))] := hD
  have hK : va_K (dC, dI) vwCl [(k_2, .int), (k_4, .int), (k_6, .byte)] s := hK
  refine W.widen (k := 3) (n := 330) (by omega) (by omega) ?_
  refine va_putF (D := (dC, dI)) (ci := 1) (v := .ref q_5) (ty := .array .byte) (C := RX0) (T := TX0) (N := 4) hx hb hts (by decide +kernel) tyX0 tyX0_ok nmX0 hown hK hP hD hS 0 rfl rfl 2 (by decide) (hts (.fieldLink RX0 18 "CobolDebugger$Items" "bytes" "[B") (by decide +kernel)) (fun _ h9 => h9) rfl hin rfl (by decide +kernel) rfl rfl (Nat.le_of_ble_eq_true rfl) dX0_init_26 (fun H locs hP hD hS => ?_)
  have hP : va_P (dC, dI) vwCl [(a0, .inr (1, [.ref q_1, .ref q_3, .ref q_5, .int 0])), (q_1, .inl (k_2, 30, .inl (fun _ => 0))), (q_3, .inl (k_4, 30, .inl (fun _ => 0))), (q_5, .inl (k_6, 270, .inl (fun _ => 0)))] H := hP
  have hD : va_D A [(a0, .inr (1, [.ref q_1, .ref q_3, .ref q_5, .int 0])), (q_1, .inl (k_2, 30, .inl (fun _ => 0))), (q_3, .inl (k_4, 30, .inl (fun _ => 0))), (q_5, .inl (k_6, 270, .inl (fun _ => 0)))] := hD
  refine W.widen (k := 3) (n := 330) (Nat.le_of_ble_eq_true rfl) (Nat.le_of_ble_eq_true rfl) ?_
  exact W.vret hx hb hr (fun t ht hW => ⟨⟨(fun k => [q_1, q_3, q_5].getD k 0, fun k => [k_2, k_4, k_6].getD k 0), rfl, trivial, by rw [ht]; exact hP, va_K.moved hW.alike hK, hD⟩, hS.F ht⟩) hS.2.2 dX0_init_29
