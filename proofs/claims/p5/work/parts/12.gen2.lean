set_option maxHeartbeats 4000000 in
set_option maxRecDepth 100000 in
theorem c_X2_enter (l : Launch) (dC : Nat → ClassId) (dI : Nat → Nat → Nat) (sz : Nat) (p0 p1 p2 p3 p4 : Nat) (kp1 kp2 : ClassId) (pf ed : Nat → Int32) (op nl : Int32) (pr : Int32) (en : Int32) (hop0 : 0 ≤ op.toInt) (hop1 : op.toInt ≤ 20) : Met l yX2_enter wsX2_enter ({ frames := 0, cells := 0, slots := 0, locals := 0 }) (va_Pc [.ref p0, .int pr, .int en] (fun U => U.heap.size = sz ∧ va_P (dC, dI) vwCl [(p0, .inr (3, [.ref p1, .ref p2, .int op, .ref p3, .ref p4, .int nl])), (p1, .inl (kp1, 20, .inl pf)), (p2, .inl (kp2, 20, .inl ed))] U.heap ∧ va_K (dC, dI) vwCl [(kp1, .int), (kp2, .int)] U ∧ va_D (fun _ => True) [(p0, .inr (3, [.ref p1, .ref p2, .int op, .ref p3, .ref p4, .int nl])), (p1, .inl (kp1, 20, .inl pf)), (p2, .inl (kp2, 20, .inl ed))])) (va_Qi (fun (r : Int32) (u : Int32 × (Nat → Int32) × (Nat → Int32)) => (r = 0 ∨ r = 1) ∧ 0 ≤ (u.1).toInt ∧ (u.1).toInt ≤ 20 ∧ ((∀ j, 0 ≤ (pf j).toInt) → 0 ≤ pr.toInt → ∀ j, 0 ≤ ((u.2.1) j).toInt)) (fun (u : Int32 × (Nat → Int32) × (Nat → Int32)) (t : State) => va_P (dC, dI) vwCl [(p0, .inr (3, [.ref p1, .ref p2, .int u.1, .ref p3, .ref p4, .int nl])), (p1, .inl (kp1, 20, .inl u.2.1)), (p2, .inl (kp2, 20, .inl u.2.2))] t.heap ∧ va_D (va_A [(p0, .inr (3, [.ref p1, .ref p2, .int op, .ref p3, .ref p4, .int nl])), (p1, .inl (kp1, 20, .inl pf)), (p2, .inl (kp2, 20, .inl ed))] sz) [(p0, .inr (3, [.ref p1, .ref p2, .int u.1, .ref p3, .ref p4, .int nl])), (p1, .inl (kp1, 20, .inl u.2.1)), (p2, .inl (kp2, 20, .inl u.2.2))]) (va_A [(p0, .inr (3, [.ref p1, .ref p2, .int op, .ref p3, .ref p4, .int nl])), (p1, .inl (kp1, 20, .inl pf)), (p2, .inl (kp2, 20, .inl ed))] sz)) 0 0 (va_A [(p0, .inr (3, [.ref p1, .ref p2, .int op, .ref p3, .ref p4, .int nl])), (p1, .inl (kp1, 20, .inl pf)), (p2, .inl (kp2, 20, .inl ed))] sz) := by
  refine Met.ofW (cc := cX2_enter) (maxL := 3) (ret := (some .boolean)) (by decide) rfl ?_
  intro p e s m args below meth c s₁ B hml hv
  obtain ⟨rfl, hsz, hP, hK, hD0⟩ := hv
  have hx := B.exec
  have hb := B.bytes
  have hr := B.returns
  have hts := atoms_spec (ws := wsX2_enter) B.pre
  have hown : s.vm.findClass RX2 = some m.cls := findClass_of_methodNamed B.named
  have hlocks := B.notSynchronized
  subst hsz
  have hD := hD0.self (sz := s.heap.size)
  generalize hAe : va_A [(p0, .inr (3, [.ref p1, .ref p2, .int op, .ref p3, .ref p4, .int nl])), (p1, .inl (kp1, 20, .inl pf)), (p2, .inl (kp2, 20, .inl ed))] s.heap.size = A at hD ⊢
  have hA : ∀ q : Nat, s.heap.size ≤ q → A q := fun q h => by rw [← hAe]; exact Or.inr h
  have hS : va_S A s.heap s.heap [] := va_S.rf
  have hl := lv_entry ([.ref p0, .int pr, .int en]) (n := 3) (Nat.le_of_ble_eq_true rfl)
  rw [lg_entry_eq]
  generalize (lg_sl ([.ref p0, .int pr, .int en]) ++ List.replicate (3 - (lg_sl ([.ref p0, .int pr, .int en])).length) Slot.unset).toArray = ls at hl ⊢
  have hl : lv_has ls 3 [(0, .ref p0), (1, .int pr), (2, .int en)] := hl
  refine lv_aload_n hx hb dX2_enter_0 rfl (lv_at hl 0 rfl) ?_
  refine va_get (D := (dC, dI)) (ci := 3) (v := .int op) (C := RX2) (T := TX2) (N := 6) hx hb hts (by decide +kernel) hown hK hP 0 rfl rfl 2 (by decide) (hts (.fieldLink RX2 24 "CobolDebugger$Performings" "open" "I") (by decide +kernel)) (fun _ h9 => h9) rfl dX2_enter_1 ?_
  refine lv_bipush (v := 20) hx hb dX2_enter_4 (by decide) ?_
  refine lv_icmp_lt (tgt := 11) hx hb dX2_enter_6 (by decide) (fun c_6 => ?_) (fun c_6 => ?_)
  · have hlt : op.toInt < 20 := by rw [i_lt] at c_6; exact c_6
    have hin : vp_in op 20 := ix_r hop0 hlt
    refine lv_aload_n hx hb dX2_enter_11 rfl (lv_at hl 0 rfl) ?_
    refine va_get (D := (dC, dI)) (ci := 3) (v := .ref p1) (C := RX2) (T := TX2) (N := 6) hx hb hts (by decide +kernel) hown hK hP 0 rfl rfl 0 (by decide) (hts (.fieldLink RX2 11 "CobolDebugger$Performings" "performers" "[I") (by decide +kernel)) (fun _ h9 => h9) rfl dX2_enter_12 ?_
    refine lv_aload_n hx hb dX2_enter_15 rfl (lv_at hl 0 rfl) ?_
    refine va_get (D := (dC, dI)) (ci := 3) (v := .int op) (C := RX2) (T := TX2) (N := 6) hx hb hts (by decide +kernel) hown hK hP 0 rfl rfl 2 (by decide) (hts (.fieldLink RX2 24 "CobolDebugger$Performings" "open" "I") (by decide +kernel)) (fun _ h9 => h9) rfl dX2_enter_16 ?_
    refine lv_iload_n hx hb dX2_enter_19 rfl (lv_at hl 1 rfl) ?_
    refine va_iast hx hb hK hP hD hS 1 0 rfl rfl (i := op) hin dX2_enter_20 (fun H locs hP hD hS => ?_)
    have hP : va_P (dC, dI) vwCl [(p0, .inr (3, [.ref p1, .ref p2, .int op, .ref p3, .ref p4, .int nl])), (p1, .inl (kp1, 20, .inl (upd pf op.toNatClampNeg pr))), (p2, .inl (kp2, 20, .inl ed))] H := hP
    have hD : va_D A [(p0, .inr (3, [.ref p1, .ref p2, .int op, .ref p3, .ref p4, .int nl])), (p1, .inl (kp1, 20, .inl (upd pf op.toNatClampNeg pr))), (p2, .inl (kp2, 20, .inl ed))] := hD
    obtain ⟨g_1, e_g_1⟩ : ∃ y, y = upd pf op.toNatClampNeg pr := ⟨_, rfl⟩
    rw [← e_g_1] at hP hD
    refine lv_aload_n hx hb dX2_enter_21 rfl (lv_at hl 0 rfl) ?_
    refine va_get (D := (dC, dI)) (ci := 3) (v := .ref p2) (C := RX2) (T := TX2) (N := 6) hx hb hts (by decide +kernel) hown hK hP 0 rfl rfl 1 (by decide) (hts (.fieldLink RX2 15 "CobolDebugger$Performings" "ends" "[I") (by decide +kernel)) (fun _ h9 => h9) rfl dX2_enter_22 ?_
    refine lv_aload_n hx hb dX2_enter_25 rfl (lv_at hl 0 rfl) ?_
    refine va_get (D := (dC, dI)) (ci := 3) (v := .int op) (C := RX2) (T := TX2) (N := 6) hx hb hts (by decide +kernel) hown hK hP 0 rfl rfl 2 (by decide) (hts (.fieldLink RX2 24 "CobolDebugger$Performings" "open" "I") (by decide +kernel)) (fun _ h9 => h9) rfl dX2_enter_26 ?_
    refine lv_iload_n hx hb dX2_enter_29 rfl (lv_at hl 2 rfl) ?_
    refine va_iast hx hb hK hP hD hS 2 1 rfl rfl (i := op) hin dX2_enter_30 (fun H locs hP hD hS => ?_)
    have hP : va_P (dC, dI) vwCl [(p0, .inr (3, [.ref p1, .ref p2, .int op, .ref p3, .ref p4, .int nl])), (p1, .inl (kp1, 20, .inl g_1)), (p2, .inl (kp2, 20, .inl (upd ed op.toNatClampNeg en)))] H := hP
    have hD : va_D A [(p0, .inr (3, [.ref p1, .ref p2, .int op, .ref p3, .ref p4, .int nl])), (p1, .inl (kp1, 20, .inl g_1)), (p2, .inl (kp2, 20, .inl (upd ed op.toNatClampNeg en)))] := hD
    obtain ⟨g_2, e_g_2⟩ : ∃ y, y = upd ed op.toNatClampNeg en := ⟨_, rfl⟩
    rw [← e_g_2] at hP hD
    refine lv_aload_n hx hb dX2_enter_31 rfl (lv_at hl 0 rfl) ?_
    refine lv_dup hx hb dX2_enter_32 rfl ?_
    refine va_get (D := (dC, dI)) (ci := 3) (v := .int op) (C := RX2) (T := TX2) (N := 6) hx hb hts (by decide +kernel) hown hK hP 0 rfl rfl 2 (by decide) (hts (.fieldLink RX2 24 "CobolDebugger$Performings" "open" "I") (by decide +kernel)) (fun _ h9 => h9) rfl dX2_enter_33 ?_
    refine lv_iconst (v := 1) hx hb dX2_enter_36 (by decide) ?_
    refine lv_iadd hx hb dX2_enter_37 ?_
    refine lv_topi (fun v_3 e_v_3 => ?_)
    refine va_put (D := (dC, dI)) (ci := 3) (v := .int v_3) (ty := .int) (C := RX2) (T := TX2) (N := 6) hx hb hts (by decide +kernel) tyX2 tyX2_ok nmX2 hown hK hP hD hS 0 rfl rfl 2 (by decide) (hts (.fieldLink RX2 24 "CobolDebugger$Performings" "open" "I") (by decide +kernel)) (fun _ h9 => h9) rfl (by decide +kernel) rfl rfl (Nat.le_of_ble_eq_true rfl) dX2_enter_38 (fun H locs hP hD hS => ?_)
    have hP : va_P (dC, dI) vwCl [(p0, .inr (3, [.ref p1, .ref p2, .int v_3, .ref p3, .ref p4, .int nl])), (p1, .inl (kp1, 20, .inl g_1)), (p2, .inl (kp2, 20, .inl g_2))] H := hP
    have hD : va_D A [(p0, .inr (3, [.ref p1, .ref p2, .int v_3, .ref p3, .ref p4, .int nl])), (p1, .inl (kp1, 20, .inl g_1)), (p2, .inl (kp2, 20, .inl g_2))] := hD
    refine lv_iconst (v := 1) hx hb dX2_enter_41 (by decide) ?_
    exact W.zret (v := 1) hx hb hr (by decide) (fun t ht hW => ⟨⟨1, (v_3, g_1, g_2), rfl, ⟨Or.inr rfl, by rw [e_v_3, i_p1 (by omega) (by omega)]; omega, by rw [e_v_3, i_p1 (by omega) (by omega)]; omega, fun h hp => by rw [e_g_1]; exact up_all (P := fun x => 0 ≤ x.toInt) h hp⟩, by rw [ht]; exact hP, hD⟩, hS.F ht⟩) hS.2.2 dX2_enter_42
  · refine lv_iconst (v := 0) hx hb dX2_enter_9 (by decide) ?_
    exact W.zret (v := 0) hx hb hr (by decide) (fun t ht hW => ⟨⟨0, (op, pf, ed), rfl, ⟨Or.inl rfl, hop0, hop1, fun h _ => h⟩, by rw [ht]; exact hP, hD⟩, hS.F ht⟩) hS.2.2 dX2_enter_10

set_option maxHeartbeats 4000000 in
set_option maxRecDepth 100000 in
theorem c_X2_endsAt (l : Launch) (dC : Nat → ClassId) (dI : Nat → Nat → Nat) (p0 p1 p2 p3 p4 : Nat) (kp2 : ClassId) (ed : Nat → Int32) (op nl : Int32) (nb : Int32) (hop0 : 0 ≤ op.toInt) (hop1 : op.toInt ≤ 20) : Met l yX2_endsAt wsX2_endsAt ({ frames := 0, cells := 0, slots := 0, locals := 0 }) (va_Pc [.ref p0, .int nb] (fun U => va_P (dC, dI) vwCl [(p0, .inr (3, [.ref p1, .ref p2, .int op, .ref p3, .ref p4, .int nl])), (p2, .inl (kp2, 20, .inl ed))] U.heap ∧ va_K (dC, dI) vwCl [(kp2, .int)] U)) (va_Qi (fun (r : Int32) (_ : Unit) => ¬ r = 0 → 0 < op.toInt) (fun _ _ => True) (fun _ => False)) 0 0 (fun _ => False) := by
  refine Met.ofW (cc := cX2_endsAt) (maxL := 2) (ret := (some .boolean)) (by decide) rfl ?_
  intro p e s m args below meth c s₁ B hml hv
  obtain ⟨rfl, hP, hK⟩ := hv
  have hx := B.exec
  have hb := B.bytes
  have hr := B.returns
  have hts := atoms_spec (ws := wsX2_endsAt) B.pre
  have hown : s.vm.findClass RX2 = some m.cls := findClass_of_methodNamed B.named
  have hlocks := B.notSynchronized
  have hS : va_S (fun _ => False) s.heap s.heap [] := va_S.rf
  have hl := lv_entry ([.ref p0, .int nb]) (n := 2) (Nat.le_of_ble_eq_true rfl)
  rw [lg_entry_eq]
  generalize (lg_sl ([.ref p0, .int nb]) ++ List.replicate (2 - (lg_sl ([.ref p0, .int nb])).length) Slot.unset).toArray = ls at hl ⊢
  have hl : lv_has ls 2 [(0, .ref p0), (1, .int nb)] := hl
  refine lv_aload_n hx hb dX2_endsAt_0 rfl (lv_at hl 0 rfl) ?_
  refine va_get (D := (dC, dI)) (ci := 3) (v := .int op) (C := RX2) (T := TX2) (N := 6) hx hb hts (by decide +kernel) hown hK hP 0 rfl rfl 2 (by decide) (hts (.fieldLink RX2 24 "CobolDebugger$Performings" "open" "I") (by decide +kernel)) (fun _ h9 => h9) rfl dX2_endsAt_1 ?_
  refine lv_if_le (tgt := 26) hx hb dX2_endsAt_4 (by decide) (fun c_4 => ?_) (fun c_4 => ?_)
  · refine lv_iconst (v := 0) hx hb dX2_endsAt_26 (by decide) ?_
    exact W.zret (v := 0) hx hb hr (by decide) (fun t ht hW => ⟨⟨0, (), rfl, fun h => absurd rfl h, trivial⟩, hS.F ht⟩) hS.2.2 dX2_endsAt_27
  · refine lv_aload_n hx hb dX2_endsAt_7 rfl (lv_at hl 0 rfl) ?_
    refine va_get (D := (dC, dI)) (ci := 3) (v := .ref p2) (C := RX2) (T := TX2) (N := 6) hx hb hts (by decide +kernel) hown hK hP 0 rfl rfl 1 (by decide) (hts (.fieldLink RX2 15 "CobolDebugger$Performings" "ends" "[I") (by decide +kernel)) (fun _ h9 => h9) rfl dX2_endsAt_8 ?_
    refine lv_aload_n hx hb dX2_endsAt_11 rfl (lv_at hl 0 rfl) ?_
    refine va_get (D := (dC, dI)) (ci := 3) (v := .int op) (C := RX2) (T := TX2) (N := 6) hx hb hts (by decide +kernel) hown hK hP 0 rfl rfl 2 (by decide) (hts (.fieldLink RX2 24 "CobolDebugger$Performings" "open" "I") (by decide +kernel)) (fun _ h9 => h9) rfl dX2_endsAt_12 ?_
    refine lv_iconst (v := 1) hx hb dX2_endsAt_15 (by decide) ?_
    refine lv_isub hx hb dX2_endsAt_16 ?_
    refine va_iald hx hb hK hP 1 0 rfl rfl (i := op - 1) (ix_s1 (pos_n c_4) hop1) dX2_endsAt_17 ?_
    refine lv_iload_n hx hb dX2_endsAt_18 rfl (lv_at hl 1 rfl) ?_
    refine lv_icmp_ne (tgt := 26) hx hb dX2_endsAt_19 (by decide) (fun c_19 => ?_) (fun c_19 => ?_)
    · refine lv_iconst (v := 0) hx hb dX2_endsAt_26 (by decide) ?_
      exact W.zret (v := 0) hx hb hr (by decide) (fun t ht hW => ⟨⟨0, (), rfl, fun _ => pos_n c_4, trivial⟩, hS.F ht⟩) hS.2.2 dX2_endsAt_27
    · refine lv_iconst (v := 1) hx hb dX2_endsAt_22 (by decide) ?_
      refine lv_goto (tgt := 27) hx hb dX2_endsAt_23 (by decide) ?_
      exact W.zret (v := 1) hx hb hr (by decide) (fun t ht hW => ⟨⟨1, (), rfl, fun _ => pos_n c_4, trivial⟩, hS.F ht⟩) hS.2.2 dX2_endsAt_27

set_option maxHeartbeats 4000000 in
set_option maxRecDepth 100000 in
theorem c_X2_leave (l : Launch) (dC : Nat → ClassId) (dI : Nat → Nat → Nat) (sz : Nat) (p0 p1 p2 p3 p4 : Nat) (kp1 kp2 kp3 kp4 : ClassId) (pf ed lp le : Nat → Int32) (op nl : Int32) (hop0 : 0 < op.toInt) (hop1 : op.toInt ≤ 20) (hnl0 : 0 ≤ nl.toInt) (hnl1 : nl.toInt < 320) (hpf : ∀ j, 0 ≤ (pf j).toInt) (hlp : ∀ j, 0 ≤ (lp j).toInt) : Met l yX2_leave wsX2_leave ({ frames := 0, cells := 0, slots := 0, locals := 0 }) (va_Pc [.ref p0] (fun U => U.heap.size = sz ∧ va_P (dC, dI) vwCl [(p0, .inr (3, [.ref p1, .ref p2, .int op, .ref p3, .ref p4, .int nl])), (p1, .inl (kp1, 20, .inl pf)), (p2, .inl (kp2, 20, .inl ed)), (p3, .inl (kp3, 320, .inl lp)), (p4, .inl (kp4, 320, .inl le))] U.heap ∧ va_K (dC, dI) vwCl [(kp1, .int), (kp2, .int), (kp3, .int), (kp4, .int)] U ∧ va_D (fun _ => True) [(p0, .inr (3, [.ref p1, .ref p2, .int op, .ref p3, .ref p4, .int nl])), (p1, .inl (kp1, 20, .inl pf)), (p2, .inl (kp2, 20, .inl ed)), (p3, .inl (kp3, 320, .inl lp)), (p4, .inl (kp4, 320, .inl le))])) (va_Qi (fun (r : Int32) (u : Int32 × Int32 × (Nat → Int32) × (Nat → Int32)) => 0 ≤ r.toInt ∧ 0 ≤ (u.1).toInt ∧ (u.1).toInt ≤ 20 ∧ 0 ≤ (u.2.1).toInt ∧ (u.2.1).toInt < 320 ∧ ∀ j, 0 ≤ ((u.2.2.1) j).toInt) (fun (u : Int32 × Int32 × (Nat → Int32) × (Nat → Int32)) (t : State) => va_P (dC, dI) vwCl [(p0, .inr (3, [.ref p1, .ref p2, .int u.1, .ref p3, .ref p4, .int u.2.1])), (p1, .inl (kp1, 20, .inl pf)), (p2, .inl (kp2, 20, .inl ed)), (p3, .inl (kp3, 320, .inl u.2.2.1)), (p4, .inl (kp4, 320, .inl u.2.2.2))] t.heap ∧ va_D (va_A [(p0, .inr (3, [.ref p1, .ref p2, .int op, .ref p3, .ref p4, .int nl])), (p1, .inl (kp1, 20, .inl pf)), (p2, .inl (kp2, 20, .inl ed)), (p3, .inl (kp3, 320, .inl lp)), (p4, .inl (kp4, 320, .inl le))] sz) [(p0, .inr (3, [.ref p1, .ref p2, .int u.1, .ref p3, .ref p4, .int u.2.1])), (p1, .inl (kp1, 20, .inl pf)), (p2, .inl (kp2, 20, .inl ed)), (p3, .inl (kp3, 320, .inl u.2.2.1)), (p4, .inl (kp4, 320, .inl u.2.2.2))]) (va_A [(p0, .inr (3, [.ref p1, .ref p2, .int op, .ref p3, .ref p4, .int nl])), (p1, .inl (kp1, 20, .inl pf)), (p2, .inl (kp2, 20, .inl ed)), (p3, .inl (kp3, 320, .inl lp)), (p4, .inl (kp4, 320, .inl le))] sz)) 0 0 (va_A [(p0, .inr (3, [.ref p1, .ref p2, .int op, .ref p3, .ref p4, .int nl])), (p1, .inl (kp1, 20, .inl pf)), (p2, .inl (kp2, 20, .inl ed)), (p3, .inl (kp3, 320, .inl lp)), (p4, .inl (kp4, 320, .inl le))] sz) := by
  refine Met.ofW (cc := cX2_leave) (maxL := 1) (ret := (some .int)) (by decide) rfl ?_
  intro p e s m args below meth c s₁ B hml hv
  obtain ⟨rfl, hsz, hP, hK, hD0⟩ := hv
  have hx := B.exec
  have hb := B.bytes
  have hr := B.returns
  have hts := atoms_spec (ws := wsX2_leave) B.pre
  have hown : s.vm.findClass RX2 = some m.cls := findClass_of_methodNamed B.named
  have hlocks := B.notSynchronized
  subst hsz
  have hD := hD0.self (sz := s.heap.size)
  generalize hAe : va_A [(p0, .inr (3, [.ref p1, .ref p2, .int op, .ref p3, .ref p4, .int nl])), (p1, .inl (kp1, 20, .inl pf)), (p2, .inl (kp2, 20, .inl ed)), (p3, .inl (kp3, 320, .inl lp)), (p4, .inl (kp4, 320, .inl le))] s.heap.size = A at hD ⊢
  have hA : ∀ q : Nat, s.heap.size ≤ q → A q := fun q h => by rw [← hAe]; exact Or.inr h
  have hS : va_S A s.heap s.heap [] := va_S.rf
  have hl := lv_entry ([.ref p0]) (n := 1) (Nat.le_of_ble_eq_true rfl)
  rw [lg_entry_eq]
  generalize (lg_sl ([.ref p0]) ++ List.replicate (1 - (lg_sl ([.ref p0])).length) Slot.unset).toArray = ls at hl ⊢
  have hl : lv_has ls 1 [(0, .ref p0)] := hl
  refine lv_aload_n hx hb dX2_leave_0 rfl (lv_at hl 0 rfl) ?_
  refine lv_dup hx hb dX2_leave_1 rfl ?_
  refine va_get (D := (dC, dI)) (ci := 3) (v := .int op) (C := RX2) (T := TX2) (N := 6) hx hb hts (by decide +kernel) hown hK hP 0 rfl rfl 2 (by decide) (hts (.fieldLink RX2 24 "CobolDebugger$Performings" "open" "I") (by decide +kernel)) (fun _ h9 => h9) rfl dX2_leave_2 ?_
  refine lv_iconst (v := 1) hx hb dX2_leave_5 (by decide) ?_
  refine lv_isub hx hb dX2_leave_6 ?_
  refine lv_topi (fun v_1 e_v_1 => ?_)
  refine va_put (D := (dC, dI)) (ci := 3) (v := .int v_1) (ty := .int) (C := RX2) (T := TX2) (N := 6) hx hb hts (by decide +kernel) tyX2 tyX2_ok nmX2 hown hK hP hD hS 0 rfl rfl 2 (by decide) (hts (.fieldLink RX2 24 "CobolDebugger$Performings" "open" "I") (by decide +kernel)) (fun _ h9 => h9) rfl (by decide +kernel) rfl rfl (Nat.le_of_ble_eq_true rfl) dX2_leave_7 (fun H locs hP hD hS => ?_)
  have hP : va_P (dC, dI) vwCl [(p0, .inr (3, [.ref p1, .ref p2, .int v_1, .ref p3, .ref p4, .int nl])), (p1, .inl (kp1, 20, .inl pf)), (p2, .inl (kp2, 20, .inl ed)), (p3, .inl (kp3, 320, .inl lp)), (p4, .inl (kp4, 320, .inl le))] H := hP
  have hD : va_D A [(p0, .inr (3, [.ref p1, .ref p2, .int v_1, .ref p3, .ref p4, .int nl])), (p1, .inl (kp1, 20, .inl pf)), (p2, .inl (kp2, 20, .inl ed)), (p3, .inl (kp3, 320, .inl lp)), (p4, .inl (kp4, 320, .inl le))] := hD
  have hq : v_1.toInt = op.toInt - 1 := by rw [e_v_1, i_s1 (by omega)]
  have hq0 : 0 ≤ v_1.toInt := by omega
  have hq1 : v_1.toInt ≤ 20 := by omega
  have hin : vp_in v_1 20 := ix_r hq0 (by omega)
  have hnl : vp_in nl 320 := ix_r hnl0 hnl1
  refine lv_aload_n hx hb dX2_leave_10 rfl (lv_at hl 0 rfl) ?_
  refine va_get (D := (dC, dI)) (ci := 3) (v := .ref p3) (C := RX2) (T := TX2) (N := 6) hx hb hts (by decide +kernel) hown hK hP 0 rfl rfl 3 (by decide) (hts (.fieldLink RX2 18 "CobolDebugger$Performings" "leftPerformers" "[I") (by decide +kernel)) (fun _ h9 => h9) rfl dX2_leave_11 ?_
  refine lv_aload_n hx hb dX2_leave_14 rfl (lv_at hl 0 rfl) ?_
  refine va_get (D := (dC, dI)) (ci := 3) (v := .int nl) (C := RX2) (T := TX2) (N := 6) hx hb hts (by decide +kernel) hown hK hP 0 rfl rfl 5 (by decide) (hts (.fieldLink RX2 28 "CobolDebugger$Performings" "nextLeft" "I") (by decide +kernel)) (fun _ h9 => h9) rfl dX2_leave_15 ?_
  refine lv_aload_n hx hb dX2_leave_18 rfl (lv_at hl 0 rfl) ?_
  refine va_get (D := (dC, dI)) (ci := 3) (v := .ref p1) (C := RX2) (T := TX2) (N := 6) hx hb hts (by decide +kernel) hown hK hP 0 rfl rfl 0 (by decide) (hts (.fieldLink RX2 11 "CobolDebugger$Performings" "performers" "[I") (by decide +kernel)) (fun _ h9 => h9) rfl dX2_leave_19 ?_
  refine lv_aload_n hx hb dX2_leave_22 rfl (lv_at hl 0 rfl) ?_
  refine va_get (D := (dC, dI)) (ci := 3) (v := .int v_1) (C := RX2) (T := TX2) (N := 6) hx hb hts (by decide +kernel) hown hK hP 0 rfl rfl 2 (by decide) (hts (.fieldLink RX2 24 "CobolDebugger$Performings" "open" "I") (by decide +kernel)) (fun _ h9 => h9) rfl dX2_leave_23 ?_
  refine va_iald hx hb hK hP 1 0 rfl rfl (i := v_1) hin dX2_leave_26 ?_
  refine va_iast hx hb hK hP hD hS 3 2 rfl rfl (i := nl) hnl dX2_leave_27 (fun H locs hP hD hS => ?_)
  have hP : va_P (dC, dI) vwCl [(p0, .inr (3, [.ref p1, .ref p2, .int v_1, .ref p3, .ref p4, .int nl])), (p1, .inl (kp1, 20, .inl pf)), (p2, .inl (kp2, 20, .inl ed)), (p3, .inl (kp3, 320, .inl (upd lp nl.toNatClampNeg (pf v_1.toNatClampNeg)))), (p4, .inl (kp4, 320, .inl le))] H := hP
  have hD : va_D A [(p0, .inr (3, [.ref p1, .ref p2, .int v_1, .ref p3, .ref p4, .int nl])), (p1, .inl (kp1, 20, .inl pf)), (p2, .inl (kp2, 20, .inl ed)), (p3, .inl (kp3, 320, .inl (upd lp nl.toNatClampNeg (pf v_1.toNatClampNeg)))), (p4, .inl (kp4, 320, .inl le))] := hD
  obtain ⟨g_2, e_g_2⟩ : ∃ y, y = upd lp nl.toNatClampNeg (pf v_1.toNatClampNeg) := ⟨_, rfl⟩
  rw [← e_g_2] at hP hD
  refine lv_aload_n hx hb dX2_leave_28 rfl (lv_at hl 0 rfl) ?_
  refine va_get (D := (dC, dI)) (ci := 3) (v := .ref p4) (C := RX2) (T := TX2) (N := 6) hx hb hts (by decide +kernel) hown hK hP 0 rfl rfl 4 (by decide) (hts (.fieldLink RX2 21 "CobolDebugger$Performings" "leftEnds" "[I") (by decide +kernel)) (fun _ h9 => h9) rfl dX2_leave_29 ?_
  refine lv_aload_n hx hb dX2_leave_32 rfl (lv_at hl 0 rfl) ?_
  refine va_get (D := (dC, dI)) (ci := 3) (v := .int nl) (C := RX2) (T := TX2) (N := 6) hx hb hts (by decide +kernel) hown hK hP 0 rfl rfl 5 (by decide) (hts (.fieldLink RX2 28 "CobolDebugger$Performings" "nextLeft" "I") (by decide +kernel)) (fun _ h9 => h9) rfl dX2_leave_33 ?_
  refine lv_aload_n hx hb dX2_leave_36 rfl (lv_at hl 0 rfl) ?_
  refine va_get (D := (dC, dI)) (ci := 3) (v := .ref p2) (C := RX2) (T := TX2) (N := 6) hx hb hts (by decide +kernel) hown hK hP 0 rfl rfl 1 (by decide) (hts (.fieldLink RX2 15 "CobolDebugger$Performings" "ends" "[I") (by decide +kernel)) (fun _ h9 => h9) rfl dX2_leave_37 ?_
  refine lv_aload_n hx hb dX2_leave_40 rfl (lv_at hl 0 rfl) ?_
  refine va_get (D := (dC, dI)) (ci := 3) (v := .int v_1) (C := RX2) (T := TX2) (N := 6) hx hb hts (by decide +kernel) hown hK hP 0 rfl rfl 2 (by decide) (hts (.fieldLink RX2 24 "CobolDebugger$Performings" "open" "I") (by decide +kernel)) (fun _ h9 => h9) rfl dX2_leave_41 ?_
  refine va_iald hx hb hK hP 2 1 rfl rfl (i := v_1) hin dX2_leave_44 ?_
  refine va_iast hx hb hK hP hD hS 4 3 rfl rfl (i := nl) hnl dX2_leave_45 (fun H locs hP hD hS => ?_)
  have hP : va_P (dC, dI) vwCl [(p0, .inr (3, [.ref p1, .ref p2, .int v_1, .ref p3, .ref p4, .int nl])), (p1, .inl (kp1, 20, .inl pf)), (p2, .inl (kp2, 20, .inl ed)), (p3, .inl (kp3, 320, .inl g_2)), (p4, .inl (kp4, 320, .inl (upd le nl.toNatClampNeg (ed v_1.toNatClampNeg))))] H := hP
  have hD : va_D A [(p0, .inr (3, [.ref p1, .ref p2, .int v_1, .ref p3, .ref p4, .int nl])), (p1, .inl (kp1, 20, .inl pf)), (p2, .inl (kp2, 20, .inl ed)), (p3, .inl (kp3, 320, .inl g_2)), (p4, .inl (kp4, 320, .inl (upd le nl.toNatClampNeg (ed v_1.toNatClampNeg))))] := hD
  obtain ⟨g_3, e_g_3⟩ : ∃ y, y = upd le nl.toNatClampNeg (ed v_1.toNatClampNeg) := ⟨_, rfl⟩
  rw [← e_g_3] at hP hD
  refine lv_aload_n hx hb dX2_leave_46 rfl (lv_at hl 0 rfl) ?_
  refine lv_aload_n hx hb dX2_leave_47 rfl (lv_at hl 0 rfl) ?_
  refine va_get (D := (dC, dI)) (ci := 3) (v := .int nl) (C := RX2) (T := TX2) (N := 6) hx hb hts (by decide +kernel) hown hK hP 0 rfl rfl 5 (by decide) (hts (.fieldLink RX2 28 "CobolDebugger$Performings" "nextLeft" "I") (by decide +kernel)) (fun _ h9 => h9) rfl dX2_leave_48 ?_
  refine lv_iconst (v := 1) hx hb dX2_leave_51 (by decide) ?_
  refine lv_iadd hx hb dX2_leave_52 ?_
  refine lv_sipush (v := 320) hx hb dX2_leave_53 (by decide) ?_
  refine lv_irem hx hb dX2_leave_56 (by decide) ?_
  refine lv_topi (fun v_4 e_v_4 => ?_)
  refine va_put (D := (dC, dI)) (ci := 3) (v := .int v_4) (ty := .int) (C := RX2) (T := TX2) (N := 6) hx hb hts (by decide +kernel) tyX2 tyX2_ok nmX2 hown hK hP hD hS 0 rfl rfl 5 (by decide) (hts (.fieldLink RX2 28 "CobolDebugger$Performings" "nextLeft" "I") (by decide +kernel)) (fun _ h9 => h9) rfl (by decide +kernel) rfl rfl (Nat.le_of_ble_eq_true rfl) dX2_leave_57 (fun H locs hP hD hS => ?_)
  have hP : va_P (dC, dI) vwCl [(p0, .inr (3, [.ref p1, .ref p2, .int v_1, .ref p3, .ref p4, .int v_4])), (p1, .inl (kp1, 20, .inl pf)), (p2, .inl (kp2, 20, .inl ed)), (p3, .inl (kp3, 320, .inl g_2)), (p4, .inl (kp4, 320, .inl g_3))] H := hP
  have hD : va_D A [(p0, .inr (3, [.ref p1, .ref p2, .int v_1, .ref p3, .ref p4, .int v_4])), (p1, .inl (kp1, 20, .inl pf)), (p2, .inl (kp2, 20, .inl ed)), (p3, .inl (kp3, 320, .inl g_2)), (p4, .inl (kp4, 320, .inl g_3))] := hD
  refine lv_aload_n hx hb dX2_leave_60 rfl (lv_at hl 0 rfl) ?_
  refine va_get (D := (dC, dI)) (ci := 3) (v := .ref p1) (C := RX2) (T := TX2) (N := 6) hx hb hts (by decide +kernel) hown hK hP 0 rfl rfl 0 (by decide) (hts (.fieldLink RX2 11 "CobolDebugger$Performings" "performers" "[I") (by decide +kernel)) (fun _ h9 => h9) rfl dX2_leave_61 ?_
  refine lv_aload_n hx hb dX2_leave_64 rfl (lv_at hl 0 rfl) ?_
  refine va_get (D := (dC, dI)) (ci := 3) (v := .int v_1) (C := RX2) (T := TX2) (N := 6) hx hb hts (by decide +kernel) hown hK hP 0 rfl rfl 2 (by decide) (hts (.fieldLink RX2 24 "CobolDebugger$Performings" "open" "I") (by decide +kernel)) (fun _ h9 => h9) rfl dX2_leave_65 ?_
  refine va_iald hx hb hK hP 1 0 rfl rfl (i := v_1) hin dX2_leave_68 ?_
  exact W.iret (v := pf v_1.toNatClampNeg) hx hb hr (fun t ht hW => ⟨⟨(pf v_1.toNatClampNeg), (v_1, v_4, g_2, g_3), rfl, ⟨hpf _, hq0, hq1, by rw [e_v_4]; exact (rem_k (n := 320) (by decide) (by decide) (by rw [i_p1 (by omega) (by omega)]; omega) (by decide)).1, by rw [e_v_4]; exact (rem_k (n := 320) (by decide) (by decide) (by rw [i_p1 (by omega) (by omega)]; omega) (by decide)).2, by rw [e_g_2]; exact up_all (P := fun x => 0 ≤ x.toInt) hlp (hpf _)⟩, by rw [ht]; exact hP, hD⟩, hS.F ht⟩) hS.2.2 dX2_leave_69

set_option maxHeartbeats 4000000 in
set_option maxRecDepth 100000 in
theorem c_X2_reopen (l : Launch) (dC : Nat → ClassId) (dI : Nat → Nat → Nat) (sz : Nat) (p0 p1 p2 p3 p4 : Nat) (kp1 kp2 kp3 kp4 : ClassId) (pf ed lp le : Nat → Int32) (op nl : Int32) (hop0 : 0 ≤ op.toInt) (hop1 : op.toInt ≤ 20) (hnl0 : 0 ≤ nl.toInt) (hnl1 : nl.toInt < 320) (hpf : ∀ j, 0 ≤ (pf j).toInt) (hlp : ∀ j, 0 ≤ (lp j).toInt) : Met l yX2_reopen wsX2_reopen ({ frames := 1, cells := 0, slots := 0, locals := 22 }) (va_Pc [.ref p0] (fun U => U.heap.size = sz ∧ va_P (dC, dI) vwCl [(p0, .inr (3, [.ref p1, .ref p2, .int op, .ref p3, .ref p4, .int nl])), (p1, .inl (kp1, 20, .inl pf)), (p2, .inl (kp2, 20, .inl ed)), (p3, .inl (kp3, 320, .inl lp)), (p4, .inl (kp4, 320, .inl le))] U.heap ∧ va_K (dC, dI) vwCl [(kp1, .int), (kp2, .int), (kp3, .int), (kp4, .int)] U ∧ va_D (fun _ => True) [(p0, .inr (3, [.ref p1, .ref p2, .int op, .ref p3, .ref p4, .int nl])), (p1, .inl (kp1, 20, .inl pf)), (p2, .inl (kp2, 20, .inl ed)), (p3, .inl (kp3, 320, .inl lp)), (p4, .inl (kp4, 320, .inl le))])) (va_Qv (fun (u : Int32 × Int32 × (Nat → Int32) × (Nat → Int32)) => 0 ≤ (u.1).toInt ∧ (u.1).toInt ≤ 20 ∧ 0 ≤ (u.2.1).toInt ∧ (u.2.1).toInt < 320 ∧ ∀ j, 0 ≤ ((u.2.2.1) j).toInt) (fun (u : Int32 × Int32 × (Nat → Int32) × (Nat → Int32)) (t : State) => va_P (dC, dI) vwCl [(p0, .inr (3, [.ref p1, .ref p2, .int u.1, .ref p3, .ref p4, .int u.2.1])), (p1, .inl (kp1, 20, .inl u.2.2.1)), (p2, .inl (kp2, 20, .inl u.2.2.2)), (p3, .inl (kp3, 320, .inl lp)), (p4, .inl (kp4, 320, .inl le))] t.heap ∧ va_D (va_A [(p0, .inr (3, [.ref p1, .ref p2, .int op, .ref p3, .ref p4, .int nl])), (p1, .inl (kp1, 20, .inl pf)), (p2, .inl (kp2, 20, .inl ed)), (p3, .inl (kp3, 320, .inl lp)), (p4, .inl (kp4, 320, .inl le))] sz) [(p0, .inr (3, [.ref p1, .ref p2, .int u.1, .ref p3, .ref p4, .int u.2.1])), (p1, .inl (kp1, 20, .inl u.2.2.1)), (p2, .inl (kp2, 20, .inl u.2.2.2)), (p3, .inl (kp3, 320, .inl lp)), (p4, .inl (kp4, 320, .inl le))]) (va_A [(p0, .inr (3, [.ref p1, .ref p2, .int op, .ref p3, .ref p4, .int nl])), (p1, .inl (kp1, 20, .inl pf)), (p2, .inl (kp2, 20, .inl ed)), (p3, .inl (kp3, 320, .inl lp)), (p4, .inl (kp4, 320, .inl le))] sz)) 0 0 (va_A [(p0, .inr (3, [.ref p1, .ref p2, .int op, .ref p3, .ref p4, .int nl])), (p1, .inl (kp1, 20, .inl pf)), (p2, .inl (kp2, 20, .inl ed)), (p3, .inl (kp3, 320, .inl lp)), (p4, .inl (kp4, 320, .inl le))] sz) := by
  refine Met.ofW (cc := cX2_reopen) (maxL := 1) (ret := none) (by decide) rfl ?_
  intro p e s m args below meth c s₁ B hml hv
  obtain ⟨rfl, hsz, hP, hK, hD0⟩ := hv
  have hx := B.exec
  have hb := B.bytes
  have hr := B.returns
  have hts := atoms_spec (ws := wsX2_reopen) B.pre
  have hown : s.vm.findClass RX2 = some m.cls := findClass_of_methodNamed B.named
  have hlocks := B.notSynchronized
  subst hsz
  have hD := hD0.self (sz := s.heap.size)
  generalize hAe : va_A [(p0, .inr (3, [.ref p1, .ref p2, .int op, .ref p3, .ref p4, .int nl])), (p1, .inl (kp1, 20, .inl pf)), (p2, .inl (kp2, 20, .inl ed)), (p3, .inl (kp3, 320, .inl lp)), (p4, .inl (kp4, 320, .inl le))] s.heap.size = A at hD ⊢
  have hA : ∀ q : Nat, s.heap.size ≤ q → A q := fun q h => by rw [← hAe]; exact Or.inr h
  have hS : va_S A s.heap s.heap [] := va_S.rf
  have hl := lv_entry ([.ref p0]) (n := 1) (Nat.le_of_ble_eq_true rfl)
  rw [lg_entry_eq]
  generalize (lg_sl ([.ref p0]) ++ List.replicate (1 - (lg_sl ([.ref p0])).length) Slot.unset).toArray = ls at hl ⊢
  have hl : lv_has ls 1 [(0, .ref p0)] := hl
  refine lv_aload_n hx hb dX2_reopen_0 rfl (lv_at hl 0 rfl) ?_
  refine lv_aload_n hx hb dX2_reopen_1 rfl (lv_at hl 0 rfl) ?_
  refine va_get (D := (dC, dI)) (ci := 3) (v := .int nl) (C := RX2) (T := TX2) (N := 6) hx hb hts (by decide +kernel) hown hK hP 0 rfl rfl 5 (by decide) (hts (.fieldLink RX2 28 "CobolDebugger$Performings" "nextLeft" "I") (by decide +kernel)) (fun _ h9 => h9) rfl dX2_reopen_2 ?_
  refine lv_sipush (v := 320) hx hb dX2_reopen_5 (by decide) ?_
  refine lv_iadd hx hb dX2_reopen_8 ?_
  refine lv_iconst (v := 1) hx hb dX2_reopen_9 (by decide) ?_
  refine lv_isub hx hb dX2_reopen_10 ?_
  refine lv_sipush (v := 320) hx hb dX2_reopen_11 (by decide) ?_
  refine lv_irem hx hb dX2_reopen_14 (by decide) ?_
  refine lv_topi (fun v_1 e_v_1 => ?_)
  refine va_put (D := (dC, dI)) (ci := 3) (v := .int v_1) (ty := .int) (C := RX2) (T := TX2) (N := 6) hx hb hts (by decide +kernel) tyX2 tyX2_ok nmX2 hown hK hP hD hS 0 rfl rfl 5 (by decide) (hts (.fieldLink RX2 28 "CobolDebugger$Performings" "nextLeft" "I") (by decide +kernel)) (fun _ h9 => h9) rfl (by decide +kernel) rfl rfl (Nat.le_of_ble_eq_true rfl) dX2_reopen_15 (fun H locs hP hD hS => ?_)
  have hP : va_P (dC, dI) vwCl [(p0, .inr (3, [.ref p1, .ref p2, .int op, .ref p3, .ref p4, .int v_1])), (p1, .inl (kp1, 20, .inl pf)), (p2, .inl (kp2, 20, .inl ed)), (p3, .inl (kp3, 320, .inl lp)), (p4, .inl (kp4, 320, .inl le))] H := hP
  have hD : va_D A [(p0, .inr (3, [.ref p1, .ref p2, .int op, .ref p3, .ref p4, .int v_1])), (p1, .inl (kp1, 20, .inl pf)), (p2, .inl (kp2, 20, .inl ed)), (p3, .inl (kp3, 320, .inl lp)), (p4, .inl (kp4, 320, .inl le))] := hD
  have hrr := rem_k (x := nl + 320 - 1) (k := 320) (n := 320) (by decide) (by decide) (by rw [i_s1 (by rw [i_k (n := 320) 320 (by decide) (by omega) (by omega)]; omega), i_k (n := 320) 320 (by decide) (by omega) (by omega)]; omega) (by decide)
  have hn0 : 0 ≤ v_1.toInt := by rw [e_v_1]; exact hrr.1
  have hn1 : v_1.toInt < 320 := by rw [e_v_1]; exact hrr.2
  have hnl : vp_in v_1 320 := ix_r hn0 hn1
  refine lv_aload_n hx hb dX2_reopen_18 rfl (lv_at hl 0 rfl) ?_
  refine lv_aload_n hx hb dX2_reopen_19 rfl (lv_at hl 0 rfl) ?_
  refine va_get (D := (dC, dI)) (ci := 3) (v := .ref p3) (C := RX2) (T := TX2) (N := 6) hx hb hts (by decide +kernel) hown hK hP 0 rfl rfl 3 (by decide) (hts (.fieldLink RX2 18 "CobolDebugger$Performings" "leftPerformers" "[I") (by decide +kernel)) (fun _ h9 => h9) rfl dX2_reopen_20 ?_
  refine lv_aload_n hx hb dX2_reopen_23 rfl (lv_at hl 0 rfl) ?_
  refine va_get (D := (dC, dI)) (ci := 3) (v := .int v_1) (C := RX2) (T := TX2) (N := 6) hx hb hts (by decide +kernel) hown hK hP 0 rfl rfl 5 (by decide) (hts (.fieldLink RX2 28 "CobolDebugger$Performings" "nextLeft" "I") (by decide +kernel)) (fun _ h9 => h9) rfl dX2_reopen_24 ?_
  refine va_iald hx hb hK hP 3 2 rfl rfl (i := v_1) hnl dX2_reopen_27 ?_
  refine lv_aload_n hx hb dX2_reopen_28 rfl (lv_at hl 0 rfl) ?_
  refine va_get (D := (dC, dI)) (ci := 3) (v := .ref p4) (C := RX2) (T := TX2) (N := 6) hx hb hts (by decide +kernel) hown hK hP 0 rfl rfl 4 (by decide) (hts (.fieldLink RX2 21 "CobolDebugger$Performings" "leftEnds" "[I") (by decide +kernel)) (fun _ h9 => h9) rfl dX2_reopen_29 ?_
  refine lv_aload_n hx hb dX2_reopen_32 rfl (lv_at hl 0 rfl) ?_
  refine va_get (D := (dC, dI)) (ci := 3) (v := .int v_1) (C := RX2) (T := TX2) (N := 6) hx hb hts (by decide +kernel) hown hK hP 0 rfl rfl 5 (by decide) (hts (.fieldLink RX2 28 "CobolDebugger$Performings" "nextLeft" "I") (by decide +kernel)) (fun _ h9 => h9) rfl dX2_reopen_33 ?_
  refine va_iald hx hb hK hP 4 3 rfl rfl (i := v_1) hnl dX2_reopen_36 ?_
  have hPc := hP.sub (ws' := [(p0, .inr (3, [.ref p1, .ref p2, .int op, .ref p3, .ref p4, .int v_1])), (p1, .inl (kp1, 20, .inl pf)), (p2, .inl (kp2, 20, .inl ed))]) [0, 1, 2] rfl
  have hKc := hK.sub (tys' := [(kp1, .int), (kp2, .int)]) [0, 1] rfl
  have hDc := hD.sub (ws' := [(p0, .inr (3, [.ref p1, .ref p2, .int op, .ref p3, .ref p4, .int v_1])), (p1, .inl (kp1, 20, .inl pf)), (p2, .inl (kp2, 20, .inl ed))]) [0, 1, 2] (by decide) rfl
  have hFc := va_free (wc := [(p0, .inr (3, [.ref p1, .ref p2, .int op, .ref p3, .ref p4, .int v_1])), (p1, .inl (kp1, 20, .inl pf)), (p2, .inl (kp2, 20, .inl ed))]) hD hS hA [0, 1, 2] rfl
  refine va_calli (va_runV (As := [.int (lp v_1.toNatClampNeg), .int (le v_1.toNatClampNeg)]) (rest := []) ⟨hx, hb, hml, hown, hts⟩ (c_X2_enter l dC dI H.size p0 p1 p2 p3 p4 kp1 kp2 pf ed op v_1 (lp v_1.toNatClampNeg) (le v_1.toNatClampNeg) (hop0) (hop1)) (cwV 2 hts gX2_reopen_X2_enter rfl rfl rfl (by decide +kernel) ⟨Nat.le_of_ble_eq_true rfl, Nat.le_of_ble_eq_true rfl⟩) ⟨fun a U g mk q => by obtain ⟨q0, q1, qP, qK, qD⟩ := q; exact ⟨q0, q1, qP, va_K.moved (u := U) (U := U.calling g mk a) (Vm.Alike.refl U.vm) qK, qD⟩, va_recv hKc hPc (ci := 3) (q0 := 0) rfl rfl, fun U hU hW => ⟨rfl, by rw [hU], by rw [hU]; exact hPc, va_K.moved hW.alike hKc, hDc.weaken (fun _ _ _ _ => trivial)⟩⟩ rfl rfl hl.1 rfl (lv_room (Nat.le_of_ble_eq_true rfl)) dX2_reopen_37 ⟨Nat.zero_le _, Nat.zero_le _⟩) hS (fun q _ h => hFc q h) (fun q h => hFc q h) (fun r_37 u t H1 locs ht hvm w_37 hB hz1 hk1 hS => ?_)
  try dsimp only at w_37
  obtain ⟨op_37, pf_37, ed_37⟩ := u
  obtain ⟨hP1, hD1⟩ := hB
  rw [ht] at hP1
  obtain ⟨hP, hD⟩ := va_join (wr := [(p3, .inl (kp3, 320, .inl lp)), (p4, .inl (kp4, 320, .inl le))]) (w1 := [(p0, .inr (3, [.ref p1, .ref p2, .int op_37, .ref p3, .ref p4, .int v_1])), (p1, .inl (kp1, 20, .inl pf_37)), (p2, .inl (kp2, 20, .inl ed_37))]) hP hD [0, 1, 2] [3, 4] rfl rfl (by decide) (by decide) hk1 hFc hP1 hD1
  generalize H1 = H at hP hS ⊢
  have hP := hP.sub (ws' := [(p0, .inr (3, [.ref p1, .ref p2, .int op_37, .ref p3, .ref p4, .int v_1])), (p1, .inl (kp1, 20, .inl pf_37)), (p2, .inl (kp2, 20, .inl ed_37)), (p3, .inl (kp3, 320, .inl lp)), (p4, .inl (kp4, 320, .inl le))]) [2, 3, 4, 0, 1] rfl
  have hD := hD.sub (ws' := [(p0, .inr (3, [.ref p1, .ref p2, .int op_37, .ref p3, .ref p4, .int v_1])), (p1, .inl (kp1, 20, .inl pf_37)), (p2, .inl (kp2, 20, .inl ed_37)), (p3, .inl (kp3, 320, .inl lp)), (p4, .inl (kp4, 320, .inl le))]) [2, 3, 4, 0, 1] (by decide) rfl
  refine lv_pop hx hb dX2_reopen_40 rfl ?_
  exact W.vret hx hb hr (fun t ht hW => ⟨⟨(op_37, v_1, pf_37, ed_37), rfl, ⟨w_37.2.1, w_37.2.2.1, hn0, hn1, w_37.2.2.2 hpf (hlp _)⟩, by rw [ht]; exact hP, hD⟩, hS.F ht⟩) hS.2.2 dX2_reopen_41

set_option maxHeartbeats 4000000 in
set_option maxRecDepth 100000 in
theorem c_X2_forgetNewest (l : Launch) (dC : Nat → ClassId) (dI : Nat → Nat → Nat) (sz : Nat) (p0 p1 p2 p3 p4 : Nat) (op nl : Int32) (hop0 : 0 ≤ op.toInt) (hop1 : op.toInt ≤ 20) : Met l yX2_forgetNewest wsX2_forgetNewest ({ frames := 0, cells := 0, slots := 0, locals := 0 }) (va_Pc [.ref p0] (fun U => U.heap.size = sz ∧ va_P (dC, dI) vwCl [(p0, .inr (3, [.ref p1, .ref p2, .int op, .ref p3, .ref p4, .int nl]))] U.heap ∧ va_K (dC, dI) vwCl [] U ∧ va_D (fun _ => True) [(p0, .inr (3, [.ref p1, .ref p2, .int op, .ref p3, .ref p4, .int nl]))])) (va_Qv (fun (u : Int32) => 0 ≤ (u).toInt ∧ (u).toInt ≤ 20) (fun (u : Int32) (t : State) => va_P (dC, dI) vwCl [(p0, .inr (3, [.ref p1, .ref p2, .int u, .ref p3, .ref p4, .int nl]))] t.heap ∧ va_D (va_A [(p0, .inr (3, [.ref p1, .ref p2, .int op, .ref p3, .ref p4, .int nl]))] sz) [(p0, .inr (3, [.ref p1, .ref p2, .int u, .ref p3, .ref p4, .int nl]))]) (va_A [(p0, .inr (3, [.ref p1, .ref p2, .int op, .ref p3, .ref p4, .int nl]))] sz)) 0 0 (va_A [(p0, .inr (3, [.ref p1, .ref p2, .int op, .ref p3, .ref p4, .int nl]))] sz) := by
  refine Met.ofW (cc := cX2_forgetNewest) (maxL := 1) (ret := none) (by decide) rfl ?_
  intro p e s m args below meth c s₁ B hml hv
  obtain ⟨rfl, hsz, hP, hK, hD0⟩ := hv
  have hx := B.exec
  have hb := B.bytes
  have hr := B.returns
  have hts := atoms_spec (ws := wsX2_forgetNewest) B.pre
  have hown : s.vm.findClass RX2 = some m.cls := findClass_of_methodNamed B.named
  have hlocks := B.notSynchronized
  subst hsz
  have hD := hD0.self (sz := s.heap.size)
  generalize hAe : va_A [(p0, .inr (3, [.ref p1, .ref p2, .int op, .ref p3, .ref p4, .int nl]))] s.heap.size = A at hD ⊢
  have hA : ∀ q : Nat, s.heap.size ≤ q → A q := fun q h => by rw [← hAe]; exact Or.inr h
  have hS : va_S A s.heap s.heap [] := va_S.rf
  have hl := lv_entry ([.ref p0]) (n := 1) (Nat.le_of_ble_eq_true rfl)
  rw [lg_entry_eq]
  generalize (lg_sl ([.ref p0]) ++ List.replicate (1 - (lg_sl ([.ref p0])).length) Slot.unset).toArray = ls at hl ⊢
  have hl : lv_has ls 1 [(0, .ref p0)] := hl
  refine lv_aload_n hx hb dX2_forgetNewest_0 rfl (lv_at hl 0 rfl) ?_
  refine va_get (D := (dC, dI)) (ci := 3) (v := .int op) (C := RX2) (T := TX2) (N := 6) hx hb hts (by decide +kernel) hown hK hP 0 rfl rfl 2 (by decide) (hts (.fieldLink RX2 24 "CobolDebugger$Performings" "open" "I") (by decide +kernel)) (fun _ h9 => h9) rfl dX2_forgetNewest_1 ?_
  refine lv_if_le (tgt := 17) hx hb dX2_forgetNewest_4 (by decide) (fun c_4 => ?_) (fun c_4 => ?_)
  · exact W.vret hx hb hr (fun t ht hW => ⟨⟨op, rfl, ⟨hop0, hop1⟩, by rw [ht]; exact hP, hD⟩, hS.F ht⟩) hS.2.2 dX2_forgetNewest_17
  · refine lv_aload_n hx hb dX2_forgetNewest_7 rfl (lv_at hl 0 rfl) ?_
    refine lv_dup hx hb dX2_forgetNewest_8 rfl ?_
    refine va_get (D := (dC, dI)) (ci := 3) (v := .int op) (C := RX2) (T := TX2) (N := 6) hx hb hts (by decide +kernel) hown hK hP 0 rfl rfl 2 (by decide) (hts (.fieldLink RX2 24 "CobolDebugger$Performings" "open" "I") (by decide +kernel)) (fun _ h9 => h9) rfl dX2_forgetNewest_9 ?_
    refine lv_iconst (v := 1) hx hb dX2_forgetNewest_12 (by decide) ?_
    refine lv_isub hx hb dX2_forgetNewest_13 ?_
    refine lv_topi (fun v_1 e_v_1 => ?_)
    refine va_put (D := (dC, dI)) (ci := 3) (v := .int v_1) (ty := .int) (C := RX2) (T := TX2) (N := 6) hx hb hts (by decide +kernel) tyX2 tyX2_ok nmX2 hown hK hP hD hS 0 rfl rfl 2 (by decide) (hts (.fieldLink RX2 24 "CobolDebugger$Performings" "open" "I") (by decide +kernel)) (fun _ h9 => h9) rfl (by decide +kernel) rfl rfl (Nat.le_of_ble_eq_true rfl) dX2_forgetNewest_14 (fun H locs hP hD hS => ?_)
    have hP : va_P (dC, dI) vwCl [(p0, .inr (3, [.ref p1, .ref p2, .int v_1, .ref p3, .ref p4, .int nl]))] H := hP
    have hD : va_D A [(p0, .inr (3, [.ref p1, .ref p2, .int v_1, .ref p3, .ref p4, .int nl]))] := hD
    exact W.vret hx hb hr (fun t ht hW => ⟨⟨v_1, rfl, ⟨by rw [e_v_1, i_s1 (by omega)]; have := pos_n c_4; omega, by rw [e_v_1, i_s1 (by omega)]; omega⟩, by rw [ht]; exact hP, hD⟩, hS.F ht⟩) hS.2.2 dX2_forgetNewest_17

set_option maxHeartbeats 4000000 in
set_option maxRecDepth 100000 in
theorem c_X1_keep (l : Launch) (dC : Nat → ClassId) (dI : Nat → Nat → Nat) (sz : Nat) (k0 k1 k2 k3 k4 a0 a1 a2 a3 : Nat) (kk1 kk2 kk3 ka3 : ClassId) (nu io kb bs : Nat → Int32) (nx nw rw md : Int32) (nb : Int32) (im : Int32) (hnx0 : 0 ≤ nx.toInt) (hnx1 : nx.toInt < 300) (hm1 : md.toInt ≤ 30) (hfb : fitB bs) (hfk : fitB kb) : Met l yX1_keep wsX1_keep ({ frames := 1, cells := 0, slots := 0, locals := 100 }) (va_Pc [.ref k0, .int nb, .int im, .ref a0] (fun U => U.heap.size = sz ∧ va_P (dC, dI) vwCl [(k0, .inr (2, [.ref k1, .ref k2, .ref k3, .ref k4, .int nx, .int nw, .int rw])), (k1, .inl (kk1, 300, .inl nu)), (k2, .inl (kk2, 300, .inl io)), (k3, .inl (kk3, 2700, .inl kb)), (a0, .inr (1, [.ref a1, .ref a2, .ref a3, .int md])), (a3, .inl (ka3, 270, .inl bs))] U.heap ∧ va_K (dC, dI) vwCl [(kk1, .int), (kk2, .int), (kk3, .byte), (ka3, .byte)] U ∧ va_D (fun _ => True) [(k0, .inr (2, [.ref k1, .ref k2, .ref k3, .ref k4, .int nx, .int nw, .int rw])), (k1, .inl (kk1, 300, .inl nu)), (k2, .inl (kk2, 300, .inl io)), (k3, .inl (kk3, 2700, .inl kb)), (a0, .inr (1, [.ref a1, .ref a2, .ref a3, .int md])), (a3, .inl (ka3, 270, .inl bs))] ∧ nW U)) (va_Qv (fun (u : Int32 × Int32 × Int32 × (Nat → Int32) × (Nat → Int32) × (Nat → Int32)) => 0 ≤ (u.1).toInt ∧ (u.1).toInt < 300 ∧ 0 ≤ (u.2.1).toInt ∧ (u.2.1).toInt < 300 ∧ (∀ j, (u.2.2.2.1) j = nu j ∨ (u.2.2.2.1) j = nb) ∧ fitB (u.2.2.2.2.2)) (fun (u : Int32 × Int32 × Int32 × (Nat → Int32) × (Nat → Int32) × (Nat → Int32)) (t : State) => va_P (dC, dI) vwCl [(k0, .inr (2, [.ref k1, .ref k2, .ref k3, .ref k4, .int u.1, .int u.2.1, .int u.2.2.1])), (k1, .inl (kk1, 300, .inl u.2.2.2.1)), (k2, .inl (kk2, 300, .inl u.2.2.2.2.1)), (k3, .inl (kk3, 2700, .inl u.2.2.2.2.2)), (a0, .inr (1, [.ref a1, .ref a2, .ref a3, .int md])), (a3, .inl (ka3, 270, .inl bs))] t.heap ∧ va_D (va_A [(k0, .inr (2, [.ref k1, .ref k2, .ref k3, .ref k4, .int nx, .int nw, .int rw])), (k1, .inl (kk1, 300, .inl nu)), (k2, .inl (kk2, 300, .inl io)), (k3, .inl (kk3, 2700, .inl kb)), (a0, .inr (1, [.ref a1, .ref a2, .ref a3, .int md])), (a3, .inl (ka3, 270, .inl bs))] sz) [(k0, .inr (2, [.ref k1, .ref k2, .ref k3, .ref k4, .int u.1, .int u.2.1, .int u.2.2.1])), (k1, .inl (kk1, 300, .inl u.2.2.2.1)), (k2, .inl (kk2, 300, .inl u.2.2.2.2.1)), (k3, .inl (kk3, 2700, .inl u.2.2.2.2.2)), (a0, .inr (1, [.ref a1, .ref a2, .ref a3, .int md])), (a3, .inl (ka3, 270, .inl bs))]) (va_A [(k0, .inr (2, [.ref k1, .ref k2, .ref k3, .ref k4, .int nx, .int nw, .int rw])), (k1, .inl (kk1, 300, .inl nu)), (k2, .inl (kk2, 300, .inl io)), (k3, .inl (kk3, 2700, .inl kb)), (a0, .inr (1, [.ref a1, .ref a2, .ref a3, .int md])), (a3, .inl (ka3, 270, .inl bs))] sz)) 0 0 (va_A [(k0, .inr (2, [.ref k1, .ref k2, .ref k3, .ref k4, .int nx, .int nw, .int rw])), (k1, .inl (kk1, 300, .inl nu)), (k2, .inl (kk2, 300, .inl io)), (k3, .inl (kk3, 2700, .inl kb)), (a0, .inr (1, [.ref a1, .ref a2, .ref a3, .int md])), (a3, .inl (ka3, 270, .inl bs))] sz) := by
  refine Met.ofW (cc := cX1_keep) (maxL := 4) (ret := none) (by decide) rfl ?_
  intro p e s m args below meth c s₁ B hml hv
  obtain ⟨rfl, hsz, hP, hK, hD0, hN⟩ := hv
  have hx := B.exec
  have hb := B.bytes
  have hr := B.returns
  have hts := atoms_spec (ws := wsX1_keep) B.pre
  have hown : s.vm.findClass RX1 = some m.cls := findClass_of_methodNamed B.named
  have hlocks := B.notSynchronized
  subst hsz
  have hD := hD0.self (sz := s.heap.size)
  generalize hAe : va_A [(k0, .inr (2, [.ref k1, .ref k2, .ref k3, .ref k4, .int nx, .int nw, .int rw])), (k1, .inl (kk1, 300, .inl nu)), (k2, .inl (kk2, 300, .inl io)), (k3, .inl (kk3, 2700, .inl kb)), (a0, .inr (1, [.ref a1, .ref a2, .ref a3, .int md])), (a3, .inl (ka3, 270, .inl bs))] s.heap.size = A at hD ⊢
  have hA : ∀ q : Nat, s.heap.size ≤ q → A q := fun q h => by rw [← hAe]; exact Or.inr h
  have hS : va_S A s.heap s.heap [] := va_S.rf
  have hl := lv_entry ([.ref k0, .int nb, .int im, .ref a0]) (n := 4) (Nat.le_of_ble_eq_true rfl)
  rw [lg_entry_eq]
  generalize (lg_sl ([.ref k0, .int nb, .int im, .ref a0]) ++ List.replicate (4 - (lg_sl ([.ref k0, .int nb, .int im, .ref a0])).length) Slot.unset).toArray = ls at hl ⊢
  have hl : lv_has ls 4 [(0, .ref k0), (1, .int nb), (2, .int im), (3, .ref a0)] := hl
  refine lv_aload_n hx hb dX1_keep_0 rfl (lv_at hl 0 rfl) ?_
  refine lv_aload_n hx hb dX1_keep_1 rfl (lv_at hl 0 rfl) ?_
  refine va_get (D := (dC, dI)) (ci := 2) (v := .int nx) (C := RX1) (T := TX1) (N := 7) hx hb hts (by decide +kernel) hown hK hP 0 rfl rfl 4 (by decide) (hts (.fieldLink RX1 25 "CobolDebugger$Kept" "next" "I") (by decide +kernel)) (fun _ h9 => h9) rfl dX1_keep_2 ?_
  refine va_put (D := (dC, dI)) (ci := 2) (v := .int nx) (ty := .int) (C := RX1) (T := TX1) (N := 7) hx hb hts (by decide +kernel) tyX1 tyX1_ok nmX1 hown hK hP hD hS 0 rfl rfl 5 (by decide) (hts (.fieldLink RX1 29 "CobolDebugger$Kept" "newest" "I") (by decide +kernel)) (fun _ h9 => h9) rfl (by decide +kernel) rfl rfl (Nat.le_of_ble_eq_true rfl) dX1_keep_5 (fun H locs hP hD hS => ?_)
  have hP : va_P (dC, dI) vwCl [(k0, .inr (2, [.ref k1, .ref k2, .ref k3, .ref k4, .int nx, .int nx, .int rw])), (k1, .inl (kk1, 300, .inl nu)), (k2, .inl (kk2, 300, .inl io)), (k3, .inl (kk3, 2700, .inl kb)), (a0, .inr (1, [.ref a1, .ref a2, .ref a3, .int md])), (a3, .inl (ka3, 270, .inl bs))] H := hP
  have hD : va_D A [(k0, .inr (2, [.ref k1, .ref k2, .ref k3, .ref k4, .int nx, .int nx, .int rw])), (k1, .inl (kk1, 300, .inl nu)), (k2, .inl (kk2, 300, .inl io)), (k3, .inl (kk3, 2700, .inl kb)), (a0, .inr (1, [.ref a1, .ref a2, .ref a3, .int md])), (a3, .inl (ka3, 270, .inl bs))] := hD
  refine lv_aload_n hx hb dX1_keep_8 rfl (lv_at hl 0 rfl) ?_
  refine lv_aload_n hx hb dX1_keep_9 rfl (lv_at hl 0 rfl) ?_
  refine va_get (D := (dC, dI)) (ci := 2) (v := .int nx) (C := RX1) (T := TX1) (N := 7) hx hb hts (by decide +kernel) hown hK hP 0 rfl rfl 4 (by decide) (hts (.fieldLink RX1 25 "CobolDebugger$Kept" "next" "I") (by decide +kernel)) (fun _ h9 => h9) rfl dX1_keep_10 ?_
  refine lv_iconst (v := 1) hx hb dX1_keep_13 (by decide) ?_
  refine lv_iadd hx hb dX1_keep_14 ?_
  refine lv_sipush (v := 300) hx hb dX1_keep_15 (by decide) ?_
  refine lv_irem hx hb dX1_keep_18 (by decide) ?_
  refine lv_topi (fun v_1 e_v_1 => ?_)
  refine va_put (D := (dC, dI)) (ci := 2) (v := .int v_1) (ty := .int) (C := RX1) (T := TX1) (N := 7) hx hb hts (by decide +kernel) tyX1 tyX1_ok nmX1 hown hK hP hD hS 0 rfl rfl 4 (by decide) (hts (.fieldLink RX1 25 "CobolDebugger$Kept" "next" "I") (by decide +kernel)) (fun _ h9 => h9) rfl (by decide +kernel) rfl rfl (Nat.le_of_ble_eq_true rfl) dX1_keep_19 (fun H locs hP hD hS => ?_)
  have hP : va_P (dC, dI) vwCl [(k0, .inr (2, [.ref k1, .ref k2, .ref k3, .ref k4, .int v_1, .int nx, .int rw])), (k1, .inl (kk1, 300, .inl nu)), (k2, .inl (kk2, 300, .inl io)), (k3, .inl (kk3, 2700, .inl kb)), (a0, .inr (1, [.ref a1, .ref a2, .ref a3, .int md])), (a3, .inl (ka3, 270, .inl bs))] H := hP
  have hD : va_D A [(k0, .inr (2, [.ref k1, .ref k2, .ref k3, .ref k4, .int v_1, .int nx, .int rw])), (k1, .inl (kk1, 300, .inl nu)), (k2, .inl (kk2, 300, .inl io)), (k3, .inl (kk3, 2700, .inl kb)), (a0, .inr (1, [.ref a1, .ref a2, .ref a3, .int md])), (a3, .inl (ka3, 270, .inl bs))] := hD
  refine lv_aload_n hx hb dX1_keep_22 rfl (lv_at hl 0 rfl) ?_
  refine lv_aload_n hx hb dX1_keep_23 rfl (lv_at hl 0 rfl) ?_
  refine va_get (D := (dC, dI)) (ci := 2) (v := .int rw) (C := RX1) (T := TX1) (N := 7) hx hb hts (by decide +kernel) hown hK hP 0 rfl rfl 6 (by decide) (hts (.fieldLink RX1 32 "CobolDebugger$Kept" "rows" "I") (by decide +kernel)) (fun _ h9 => h9) rfl dX1_keep_24 ?_
  refine lv_iconst (v := 1) hx hb dX1_keep_27 (by decide) ?_
  refine lv_iadd hx hb dX1_keep_28 ?_
  refine lv_sipush (v := 300) hx hb dX1_keep_29 (by decide) ?_
  refine va_mmin hx hb (by rw [hml]; exact hl.1.symm) hown (hts (.methodLink RX1 35 Lib.Math.min.name) (by decide +kernel)) (hts (.static Lib.Math.min.name) (by decide +kernel)) (hts (.initialized "java/lang/Math") (by decide +kernel)) (hts (.code Lib.Math.min.name Lib.Math.min.code 2 (some .int)) (by decide +kernel)) (Nat.le_of_ble_eq_true rfl) (Nat.le_of_ble_eq_true rfl) (Nat.le_of_ble_eq_true rfl) (Nat.le_of_ble_eq_true rfl) dX1_keep_32 ?_
  refine lv_topi (fun v_2 e_v_2 => ?_)
  refine va_put (D := (dC, dI)) (ci := 2) (v := .int v_2) (ty := .int) (C := RX1) (T := TX1) (N := 7) hx hb hts (by decide +kernel) tyX1 tyX1_ok nmX1 hown hK hP hD hS 0 rfl rfl 6 (by decide) (hts (.fieldLink RX1 32 "CobolDebugger$Kept" "rows" "I") (by decide +kernel)) (fun _ h9 => h9) rfl (by decide +kernel) rfl rfl (Nat.le_of_ble_eq_true rfl) dX1_keep_35 (fun H locs hP hD hS => ?_)
  have hP : va_P (dC, dI) vwCl [(k0, .inr (2, [.ref k1, .ref k2, .ref k3, .ref k4, .int v_1, .int nx, .int v_2])), (k1, .inl (kk1, 300, .inl nu)), (k2, .inl (kk2, 300, .inl io)), (k3, .inl (kk3, 2700, .inl kb)), (a0, .inr (1, [.ref a1, .ref a2, .ref a3, .int md])), (a3, .inl (ka3, 270, .inl bs))] H := hP
  have hD : va_D A [(k0, .inr (2, [.ref k1, .ref k2, .ref k3, .ref k4, .int v_1, .int nx, .int v_2])), (k1, .inl (kk1, 300, .inl nu)), (k2, .inl (kk2, 300, .inl io)), (k3, .inl (kk3, 2700, .inl kb)), (a0, .inr (1, [.ref a1, .ref a2, .ref a3, .int md])), (a3, .inl (ka3, 270, .inl bs))] := hD
  have hin : vp_in nx 300 := ix_r hnx0 hnx1
  refine lv_aload_n hx hb dX1_keep_38 rfl (lv_at hl 0 rfl) ?_
  refine va_get (D := (dC, dI)) (ci := 2) (v := .ref k1) (C := RX1) (T := TX1) (N := 7) hx hb hts (by decide +kernel) hown hK hP 0 rfl rfl 0 (by decide) (hts (.fieldLink RX1 9 "CobolDebugger$Kept" "numbers" "[I") (by decide +kernel)) (fun _ h9 => h9) rfl dX1_keep_39 ?_
  refine lv_aload_n hx hb dX1_keep_42 rfl (lv_at hl 0 rfl) ?_
  refine va_get (D := (dC, dI)) (ci := 2) (v := .int nx) (C := RX1) (T := TX1) (N := 7) hx hb hts (by decide +kernel) hown hK hP 0 rfl rfl 5 (by decide) (hts (.fieldLink RX1 29 "CobolDebugger$Kept" "newest" "I") (by decide +kernel)) (fun _ h9 => h9) rfl dX1_keep_43 ?_
  refine lv_iload_n hx hb dX1_keep_46 rfl (lv_at hl 1 rfl) ?_
  refine va_iast hx hb hK hP hD hS 1 0 rfl rfl (i := nx) hin dX1_keep_47 (fun H locs hP hD hS => ?_)
  have hP : va_P (dC, dI) vwCl [(k0, .inr (2, [.ref k1, .ref k2, .ref k3, .ref k4, .int v_1, .int nx, .int v_2])), (k1, .inl (kk1, 300, .inl (upd nu nx.toNatClampNeg nb))), (k2, .inl (kk2, 300, .inl io)), (k3, .inl (kk3, 2700, .inl kb)), (a0, .inr (1, [.ref a1, .ref a2, .ref a3, .int md])), (a3, .inl (ka3, 270, .inl bs))] H := hP
  have hD : va_D A [(k0, .inr (2, [.ref k1, .ref k2, .ref k3, .ref k4, .int v_1, .int nx, .int v_2])), (k1, .inl (kk1, 300, .inl (upd nu nx.toNatClampNeg nb))), (k2, .inl (kk2, 300, .inl io)), (k3, .inl (kk3, 2700, .inl kb)), (a0, .inr (1, [.ref a1, .ref a2, .ref a3, .int md])), (a3, .inl (ka3, 270, .inl bs))] := hD
  obtain ⟨g_3, e_g_3⟩ : ∃ y, y = upd nu nx.toNatClampNeg nb := ⟨_, rfl⟩
  rw [← e_g_3] at hP hD
  refine lv_aload_n hx hb dX1_keep_48 rfl (lv_at hl 0 rfl) ?_
  refine va_get (D := (dC, dI)) (ci := 2) (v := .ref k2) (C := RX1) (T := TX1) (N := 7) hx hb hts (by decide +kernel) hown hK hP 0 rfl rfl 1 (by decide) (hts (.fieldLink RX1 13 "CobolDebugger$Kept" "itemsOf" "[I") (by decide +kernel)) (fun _ h9 => h9) rfl dX1_keep_49 ?_
  refine lv_aload_n hx hb dX1_keep_52 rfl (lv_at hl 0 rfl) ?_
  refine va_get (D := (dC, dI)) (ci := 2) (v := .int nx) (C := RX1) (T := TX1) (N := 7) hx hb hts (by decide +kernel) hown hK hP 0 rfl rfl 5 (by decide) (hts (.fieldLink RX1 29 "CobolDebugger$Kept" "newest" "I") (by decide +kernel)) (fun _ h9 => h9) rfl dX1_keep_53 ?_
  refine lv_iload_n hx hb dX1_keep_56 rfl (lv_at hl 2 rfl) ?_
  refine va_iast hx hb hK hP hD hS 2 1 rfl rfl (i := nx) hin dX1_keep_57 (fun H locs hP hD hS => ?_)
  have hP : va_P (dC, dI) vwCl [(k0, .inr (2, [.ref k1, .ref k2, .ref k3, .ref k4, .int v_1, .int nx, .int v_2])), (k1, .inl (kk1, 300, .inl g_3)), (k2, .inl (kk2, 300, .inl (upd io nx.toNatClampNeg im))), (k3, .inl (kk3, 2700, .inl kb)), (a0, .inr (1, [.ref a1, .ref a2, .ref a3, .int md])), (a3, .inl (ka3, 270, .inl bs))] H := hP
  have hD : va_D A [(k0, .inr (2, [.ref k1, .ref k2, .ref k3, .ref k4, .int v_1, .int nx, .int v_2])), (k1, .inl (kk1, 300, .inl g_3)), (k2, .inl (kk2, 300, .inl (upd io nx.toNatClampNeg im))), (k3, .inl (kk3, 2700, .inl kb)), (a0, .inr (1, [.ref a1, .ref a2, .ref a3, .int md])), (a3, .inl (ka3, 270, .inl bs))] := hD
  obtain ⟨g_4, e_g_4⟩ : ∃ y, y = upd io nx.toNatClampNeg im := ⟨_, rfl⟩
  rw [← e_g_4] at hP hD
  refine lv_aload_n hx hb dX1_keep_58 rfl (lv_at hl 3 rfl) ?_
  refine lv_iload_n hx hb dX1_keep_59 rfl (lv_at hl 2 rfl) ?_
  have hPc := hP.sub (ws' := [(a0, .inr (1, [.ref a1, .ref a2, .ref a3, .int md]))]) [4] rfl
  have hKc := hK.sub (tys' := []) [] rfl
  refine va_calli (va_runVN (C := RX0) (As := [.int im]) (rest := []) ⟨hx, hb, hml, hown, hts⟩ (c_X0_has l dC dI a0 a1 a2 a3 md im) ⟨va_cnB 1 hts gX1_keep_X0_has_n41 rfl rfl rfl (nwm hN (RX1, 41, yX0_has, RX4) (by decide +kernel)) (hts (.initialized RX0) (by decide +kernel)) (by decide +kernel) ⟨Nat.le_of_ble_eq_true rfl, Nat.le_of_ble_eq_true rfl⟩, hts (.instanceMethod yX0_has) (by decide +kernel), hts (.selects RX0 yX0_has yX0_has) (by decide +kernel)⟩ ⟨fun a U g mk q => by obtain ⟨q0, qP, qK⟩ := q; exact ⟨q0, qP, va_K.moved (u := U) (U := U.calling g mk a) (Vm.Alike.refl U.vm) qK⟩, va_recv hKc hPc (ci := 1) (q0 := 0) rfl rfl, fun U hU hW => ⟨rfl, by rw [hU]; exact hPc, va_K.moved hW.alike hKc⟩⟩ rfl rfl hl.1 rfl (lv_room (Nat.le_of_ble_eq_true rfl)) dX1_keep_60 ⟨Nat.zero_le _, Nat.zero_le _⟩) hS (fun q _ h => h.elim) (fun q h => h.elim) (fun r_60 u t H1 locs ht hvm w_60 hB hz1 hk1 hS => ?_)
  try dsimp only at w_60
  have hP := rd_keep hP hk1
  clear hB hk1 hz1 ht hvm u t
  generalize H1 = H at hP hS ⊢
  have w_60 := z01 w_60
  refine lv_if_eq (tgt := 90) hx hb dX1_keep_63 (by decide) (fun c_63 => ?_) (fun c_63 => ?_)
  · exact W.vret hx hb hr (fun t ht hW => ⟨⟨(v_1, nx, v_2, g_3, g_4, kb), rfl, ⟨by rw [e_v_1]; exact (rem_k (n := 300) (by decide) (by decide) (by rw [i_p1 (by omega) (by omega)]; omega) (by decide)).1, by rw [e_v_1]; exact (rem_k (n := 300) (by decide) (by decide) (by rw [i_p1 (by omega) (by omega)]; omega) (by decide)).2, hnx0, hnx1, fun j => by rw [e_g_3]; exact up_or _ _ _ j, (hfk : fitB kb)⟩, by rw [ht]; exact hP, hD⟩, hS.F ht⟩) hS.2.2 dX1_keep_90
  · have him : vp_in im 30 := ix_m hm1 (fun h => c_63 (w_60.mpr (Or.inl h))) (fun h => c_63 (w_60.mpr (Or.inr h)))
    refine lv_aload_n hx hb dX1_keep_66 rfl (lv_at hl 3 rfl) ?_
    refine va_getN (D := (dC, dI)) (ci := 1) (v := .ref a3) (C := RX0) (T := TX0) (N := 4) hx hb hts (by decide +kernel) hown hK hP 4 rfl rfl 2 (by decide) (va_Nw.use (w := .fieldLinkNest RX1 45 "CobolDebugger$Items" "bytes" "[B" RX4) rfl (nwf hN (RX1, 45, "CobolDebugger$Items", "bytes", "[B", RX4) (by decide +kernel))) (fun _ h9 => h9) rfl dX1_keep_67 ?_
    refine lv_iload_n hx hb dX1_keep_70 rfl (lv_at hl 2 rfl) ?_
    refine lv_bipush (v := 9) hx hb dX1_keep_71 (by decide) ?_
    refine lv_imul hx hb dX1_keep_73 ?_
    refine lv_aload_n hx hb dX1_keep_74 rfl (lv_at hl 0 rfl) ?_
    refine va_get (D := (dC, dI)) (ci := 2) (v := .ref k3) (C := RX1) (T := TX1) (N := 7) hx hb hts (by decide +kernel) hown hK hP 0 rfl rfl 2 (by decide) (hts (.fieldLink RX1 18 "CobolDebugger$Kept" "bytes" "[B") (by decide +kernel)) (fun _ h9 => h9) rfl dX1_keep_75 ?_
    refine lv_aload_n hx hb dX1_keep_78 rfl (lv_at hl 0 rfl) ?_
    refine va_get (D := (dC, dI)) (ci := 2) (v := .int nx) (C := RX1) (T := TX1) (N := 7) hx hb hts (by decide +kernel) hown hK hP 0 rfl rfl 5 (by decide) (hts (.fieldLink RX1 29 "CobolDebugger$Kept" "newest" "I") (by decide +kernel)) (fun _ h9 => h9) rfl dX1_keep_79 ?_
    refine lv_bipush (v := 9) hx hb dX1_keep_82 (by decide) ?_
    refine lv_imul hx hb dX1_keep_84 ?_
    refine lv_bipush (v := 9) hx hb dX1_keep_85 (by decide) ?_
    refine va_copyi hx hb (by rw [hml]; exact hl.1.symm) hown (hts (.methodLink RX1 46 arraycopyName) (by decide +kernel)) (hts (.native arraycopyName) (by decide +kernel)) (hts (.static arraycopyName) (by decide +kernel)) (hts (.initialized "java/lang/System") (by decide +kernel)) hK hP hD hS 5 3 3 2 rfl rfl rfl rfl rfl (sp := im * 9) (dp := nx * 9) (n := 9) (m9 (N := 270) him rfl (by decide)).1 (m9 (N := 2700) hin rfl (by decide)).1 (by decide) (m9 (N := 270) him rfl (by decide)).2 (m9 (N := 2700) hin rfl (by decide)).2 (fun i _ => hfb _) (Nat.le_of_ble_eq_true rfl) (Nat.le_of_ble_eq_true rfl) dX1_keep_87 (fun H locs hP hD hS => ?_)
    have hP : va_P (dC, dI) vwCl [(k0, .inr (2, [.ref k1, .ref k2, .ref k3, .ref k4, .int v_1, .int nx, .int v_2])), (k1, .inl (kk1, 300, .inl g_3)), (k2, .inl (kk2, 300, .inl g_4)), (k3, .inl (kk3, 2700, .inl (va_cpy bs kb (im * 9).toNatClampNeg (nx * 9).toNatClampNeg (9 : Int32).toNatClampNeg))), (a0, .inr (1, [.ref a1, .ref a2, .ref a3, .int md])), (a3, .inl (ka3, 270, .inl bs))] H := hP
    have hD : va_D A [(k0, .inr (2, [.ref k1, .ref k2, .ref k3, .ref k4, .int v_1, .int nx, .int v_2])), (k1, .inl (kk1, 300, .inl g_3)), (k2, .inl (kk2, 300, .inl g_4)), (k3, .inl (kk3, 2700, .inl (va_cpy bs kb (im * 9).toNatClampNeg (nx * 9).toNatClampNeg (9 : Int32).toNatClampNeg))), (a0, .inr (1, [.ref a1, .ref a2, .ref a3, .int md])), (a3, .inl (ka3, 270, .inl bs))] := hD
    obtain ⟨g_5, e_g_5⟩ : ∃ y, y = va_cpy bs kb (im * 9).toNatClampNeg (nx * 9).toNatClampNeg (9 : Int32).toNatClampNeg := ⟨_, rfl⟩
    rw [← e_g_5] at hP hD
    exact W.vret hx hb hr (fun t ht hW => ⟨⟨(v_1, nx, v_2, g_3, g_4, g_5), rfl, ⟨by rw [e_v_1]; exact (rem_k (n := 300) (by decide) (by decide) (by rw [i_p1 (by omega) (by omega)]; omega) (by decide)).1, by rw [e_v_1]; exact (rem_k (n := 300) (by decide) (by decide) (by rw [i_p1 (by omega) (by omega)]; omega) (by decide)).2, hnx0, hnx1, fun j => by rw [e_g_3]; exact up_or _ _ _ j, (by rw [e_g_5]; exact fitB_cpy hfb hfk _ _ _ : fitB g_5)⟩, by rw [ht]; exact hP, hD⟩, hS.F ht⟩) hS.2.2 dX1_keep_90

set_option maxHeartbeats 4000000 in
set_option maxRecDepth 100000 in
theorem c_X1_noteEntered (l : Launch) (dC : Nat → ClassId) (dI : Nat → Nat → Nat) (sz : Nat) (k0 k1 k2 k3 k4 : Nat) (kk4 : ClassId) (lf : Nat → Int32) (nx nw rw : Int32) (hnw0 : 0 ≤ nw.toInt) (hnw1 : nw.toInt < 300) : Met l yX1_noteEntered wsX1_noteEntered ({ frames := 0, cells := 0, slots := 0, locals := 0 }) (va_Pc [.ref k0] (fun U => U.heap.size = sz ∧ va_P (dC, dI) vwCl [(k0, .inr (2, [.ref k1, .ref k2, .ref k3, .ref k4, .int nx, .int nw, .int rw])), (k4, .inl (kk4, 300, .inl lf))] U.heap ∧ va_K (dC, dI) vwCl [(kk4, .int)] U ∧ va_D (fun _ => True) [(k0, .inr (2, [.ref k1, .ref k2, .ref k3, .ref k4, .int nx, .int nw, .int rw])), (k4, .inl (kk4, 300, .inl lf))])) (va_Qv (fun (u : (Nat → Int32)) => True) (fun (u : (Nat → Int32)) (t : State) => va_P (dC, dI) vwCl [(k0, .inr (2, [.ref k1, .ref k2, .ref k3, .ref k4, .int nx, .int nw, .int rw])), (k4, .inl (kk4, 300, .inl u))] t.heap ∧ va_D (va_A [(k0, .inr (2, [.ref k1, .ref k2, .ref k3, .ref k4, .int nx, .int nw, .int rw])), (k4, .inl (kk4, 300, .inl lf))] sz) [(k0, .inr (2, [.ref k1, .ref k2, .ref k3, .ref k4, .int nx, .int nw, .int rw])), (k4, .inl (kk4, 300, .inl u))]) (va_A [(k0, .inr (2, [.ref k1, .ref k2, .ref k3, .ref k4, .int nx, .int nw, .int rw])), (k4, .inl (kk4, 300, .inl lf))] sz)) 0 0 (va_A [(k0, .inr (2, [.ref k1, .ref k2, .ref k3, .ref k4, .int nx, .int nw, .int rw])), (k4, .inl (kk4, 300, .inl lf))] sz) := by
  refine Met.ofW (cc := cX1_noteEntered) (maxL := 1) (ret := none) (by decide) rfl ?_
  intro p e s m args below meth c s₁ B hml hv
  obtain ⟨rfl, hsz, hP, hK, hD0⟩ := hv
  have hx := B.exec
  have hb := B.bytes
  have hr := B.returns
  have hts := atoms_spec (ws := wsX1_noteEntered) B.pre
  have hown : s.vm.findClass RX1 = some m.cls := findClass_of_methodNamed B.named
  have hlocks := B.notSynchronized
  subst hsz
  have hD := hD0.self (sz := s.heap.size)
  generalize hAe : va_A [(k0, .inr (2, [.ref k1, .ref k2, .ref k3, .ref k4, .int nx, .int nw, .int rw])), (k4, .inl (kk4, 300, .inl lf))] s.heap.size = A at hD ⊢
  have hA : ∀ q : Nat, s.heap.size ≤ q → A q := fun q h => by rw [← hAe]; exact Or.inr h
  have hS : va_S A s.heap s.heap [] := va_S.rf
  have hl := lv_entry ([.ref k0]) (n := 1) (Nat.le_of_ble_eq_true rfl)
  rw [lg_entry_eq]
  generalize (lg_sl ([.ref k0]) ++ List.replicate (1 - (lg_sl ([.ref k0])).length) Slot.unset).toArray = ls at hl ⊢
  have hl : lv_has ls 1 [(0, .ref k0)] := hl
  refine lv_aload_n hx hb dX1_noteEntered_0 rfl (lv_at hl 0 rfl) ?_
  refine va_get (D := (dC, dI)) (ci := 2) (v := .ref k4) (C := RX1) (T := TX1) (N := 7) hx hb hts (by decide +kernel) hown hK hP 0 rfl rfl 3 (by decide) (hts (.fieldLink RX1 22 "CobolDebugger$Kept" "lefts" "[I") (by decide +kernel)) (fun _ h9 => h9) rfl dX1_noteEntered_1 ?_
  refine lv_aload_n hx hb dX1_noteEntered_4 rfl (lv_at hl 0 rfl) ?_
  refine va_get (D := (dC, dI)) (ci := 2) (v := .int nw) (C := RX1) (T := TX1) (N := 7) hx hb hts (by decide +kernel) hown hK hP 0 rfl rfl 5 (by decide) (hts (.fieldLink RX1 29 "CobolDebugger$Kept" "newest" "I") (by decide +kernel)) (fun _ h9 => h9) rfl dX1_noteEntered_5 ?_
  refine lv_iconst (v := (-1)) hx hb dX1_noteEntered_8 (by decide) ?_
  refine va_iast hx hb hK hP hD hS 1 0 rfl rfl (i := nw) (ix_r hnw0 hnw1) dX1_noteEntered_9 (fun H locs hP hD hS => ?_)
  have hP : va_P (dC, dI) vwCl [(k0, .inr (2, [.ref k1, .ref k2, .ref k3, .ref k4, .int nx, .int nw, .int rw])), (k4, .inl (kk4, 300, .inl (upd lf nw.toNatClampNeg (-1))))] H := hP
  have hD : va_D A [(k0, .inr (2, [.ref k1, .ref k2, .ref k3, .ref k4, .int nx, .int nw, .int rw])), (k4, .inl (kk4, 300, .inl (upd lf nw.toNatClampNeg (-1))))] := hD
  obtain ⟨g_1, e_g_1⟩ : ∃ y, y = upd lf nw.toNatClampNeg (-1) := ⟨_, rfl⟩
  rw [← e_g_1] at hP hD
  exact W.vret hx hb hr (fun t ht hW => ⟨⟨g_1, rfl, trivial, by rw [ht]; exact hP, hD⟩, hS.F ht⟩) hS.2.2 dX1_noteEntered_10

set_option maxHeartbeats 4000000 in
set_option maxRecDepth 100000 in
theorem c_X1_noteLeft (l : Launch) (dC : Nat → ClassId) (dI : Nat → Nat → Nat) (sz : Nat) (k0 k1 k2 k3 k4 : Nat) (kk4 : ClassId) (lf : Nat → Int32) (nx nw rw : Int32) (lv : Int32) (hnw0 : 0 ≤ nw.toInt) (hnw1 : nw.toInt < 300) : Met l yX1_noteLeft wsX1_noteLeft ({ frames := 0, cells := 0, slots := 0, locals := 0 }) (va_Pc [.ref k0, .int lv] (fun U => U.heap.size = sz ∧ va_P (dC, dI) vwCl [(k0, .inr (2, [.ref k1, .ref k2, .ref k3, .ref k4, .int nx, .int nw, .int rw])), (k4, .inl (kk4, 300, .inl lf))] U.heap ∧ va_K (dC, dI) vwCl [(kk4, .int)] U ∧ va_D (fun _ => True) [(k0, .inr (2, [.ref k1, .ref k2, .ref k3, .ref k4, .int nx, .int nw, .int rw])), (k4, .inl (kk4, 300, .inl lf))])) (va_Qv (fun (u : (Nat → Int32)) => True) (fun (u : (Nat → Int32)) (t : State) => va_P (dC, dI) vwCl [(k0, .inr (2, [.ref k1, .ref k2, .ref k3, .ref k4, .int nx, .int nw, .int rw])), (k4, .inl (kk4, 300, .inl u))] t.heap ∧ va_D (va_A [(k0, .inr (2, [.ref k1, .ref k2, .ref k3, .ref k4, .int nx, .int nw, .int rw])), (k4, .inl (kk4, 300, .inl lf))] sz) [(k0, .inr (2, [.ref k1, .ref k2, .ref k3, .ref k4, .int nx, .int nw, .int rw])), (k4, .inl (kk4, 300, .inl u))]) (va_A [(k0, .inr (2, [.ref k1, .ref k2, .ref k3, .ref k4, .int nx, .int nw, .int rw])), (k4, .inl (kk4, 300, .inl lf))] sz)) 0 0 (va_A [(k0, .inr (2, [.ref k1, .ref k2, .ref k3, .ref k4, .int nx, .int nw, .int rw])), (k4, .inl (kk4, 300, .inl lf))] sz) := by
  refine Met.ofW (cc := cX1_noteLeft) (maxL := 2) (ret := none) (by decide) rfl ?_
  intro p e s m args below meth c s₁ B hml hv
  obtain ⟨rfl, hsz, hP, hK, hD0⟩ := hv
  have hx := B.exec
  have hb := B.bytes
  have hr := B.returns
  have hts := atoms_spec (ws := wsX1_noteLeft) B.pre
  have hown : s.vm.findClass RX1 = some m.cls := findClass_of_methodNamed B.named
  have hlocks := B.notSynchronized
  subst hsz
  have hD := hD0.self (sz := s.heap.size)
  generalize hAe : va_A [(k0, .inr (2, [.ref k1, .ref k2, .ref k3, .ref k4, .int nx, .int nw, .int rw])), (k4, .inl (kk4, 300, .inl lf))] s.heap.size = A at hD ⊢
  have hA : ∀ q : Nat, s.heap.size ≤ q → A q := fun q h => by rw [← hAe]; exact Or.inr h
  have hS : va_S A s.heap s.heap [] := va_S.rf
  have hl := lv_entry ([.ref k0, .int lv]) (n := 2) (Nat.le_of_ble_eq_true rfl)
  rw [lg_entry_eq]
  generalize (lg_sl ([.ref k0, .int lv]) ++ List.replicate (2 - (lg_sl ([.ref k0, .int lv])).length) Slot.unset).toArray = ls at hl ⊢
  have hl : lv_has ls 2 [(0, .ref k0), (1, .int lv)] := hl
  refine lv_aload_n hx hb dX1_noteLeft_0 rfl (lv_at hl 0 rfl) ?_
  refine va_get (D := (dC, dI)) (ci := 2) (v := .ref k4) (C := RX1) (T := TX1) (N := 7) hx hb hts (by decide +kernel) hown hK hP 0 rfl rfl 3 (by decide) (hts (.fieldLink RX1 22 "CobolDebugger$Kept" "lefts" "[I") (by decide +kernel)) (fun _ h9 => h9) rfl dX1_noteLeft_1 ?_
  refine lv_aload_n hx hb dX1_noteLeft_4 rfl (lv_at hl 0 rfl) ?_
  refine va_get (D := (dC, dI)) (ci := 2) (v := .int nw) (C := RX1) (T := TX1) (N := 7) hx hb hts (by decide +kernel) hown hK hP 0 rfl rfl 5 (by decide) (hts (.fieldLink RX1 29 "CobolDebugger$Kept" "newest" "I") (by decide +kernel)) (fun _ h9 => h9) rfl dX1_noteLeft_5 ?_
  refine lv_iload_n hx hb dX1_noteLeft_8 rfl (lv_at hl 1 rfl) ?_
  refine va_iast hx hb hK hP hD hS 1 0 rfl rfl (i := nw) (ix_r hnw0 hnw1) dX1_noteLeft_9 (fun H locs hP hD hS => ?_)
  have hP : va_P (dC, dI) vwCl [(k0, .inr (2, [.ref k1, .ref k2, .ref k3, .ref k4, .int nx, .int nw, .int rw])), (k4, .inl (kk4, 300, .inl (upd lf nw.toNatClampNeg lv)))] H := hP
  have hD : va_D A [(k0, .inr (2, [.ref k1, .ref k2, .ref k3, .ref k4, .int nx, .int nw, .int rw])), (k4, .inl (kk4, 300, .inl (upd lf nw.toNatClampNeg lv)))] := hD
  obtain ⟨g_1, e_g_1⟩ : ∃ y, y = upd lf nw.toNatClampNeg lv := ⟨_, rfl⟩
  rw [← e_g_1] at hP hD
  exact W.vret hx hb hr (fun t ht hW => ⟨⟨g_1, rfl, trivial, by rw [ht]; exact hP, hD⟩, hS.F ht⟩) hS.2.2 dX1_noteLeft_10

set_option maxHeartbeats 4000000 in
set_option maxRecDepth 100000 in
theorem c_X1_takeNewest (l : Launch) (dC : Nat → ClassId) (dI : Nat → Nat → Nat) (sz : Nat) (k0 k1 k2 k3 k4 : Nat) (nx nw rw : Int32) (hnx0 : 0 ≤ nx.toInt) (hnx1 : nx.toInt < 300) : Met l yX1_takeNewest wsX1_takeNewest ({ frames := 0, cells := 0, slots := 0, locals := 0 }) (va_Pc [.ref k0] (fun U => U.heap.size = sz ∧ va_P (dC, dI) vwCl [(k0, .inr (2, [.ref k1, .ref k2, .ref k3, .ref k4, .int nx, .int nw, .int rw]))] U.heap ∧ va_K (dC, dI) vwCl [] U ∧ va_D (fun _ => True) [(k0, .inr (2, [.ref k1, .ref k2, .ref k3, .ref k4, .int nx, .int nw, .int rw]))])) (va_Qv (fun (u : Int32 × Int32 × Int32) => 0 ≤ (u.1).toInt ∧ (u.1).toInt < 300 ∧ 0 ≤ (u.2.1).toInt ∧ (u.2.1).toInt < 300) (fun (u : Int32 × Int32 × Int32) (t : State) => va_P (dC, dI) vwCl [(k0, .inr (2, [.ref k1, .ref k2, .ref k3, .ref k4, .int u.1, .int u.2.1, .int u.2.2]))] t.heap ∧ va_D (va_A [(k0, .inr (2, [.ref k1, .ref k2, .ref k3, .ref k4, .int nx, .int nw, .int rw]))] sz) [(k0, .inr (2, [.ref k1, .ref k2, .ref k3, .ref k4, .int u.1, .int u.2.1, .int u.2.2]))]) (va_A [(k0, .inr (2, [.ref k1, .ref k2, .ref k3, .ref k4, .int nx, .int nw, .int rw]))] sz)) 0 0 (va_A [(k0, .inr (2, [.ref k1, .ref k2, .ref k3, .ref k4, .int nx, .int nw, .int rw]))] sz) := by
  refine Met.ofW (cc := cX1_takeNewest) (maxL := 1) (ret := none) (by decide) rfl ?_
  intro p e s m args below meth c s₁ B hml hv
  obtain ⟨rfl, hsz, hP, hK, hD0⟩ := hv
  have hx := B.exec
  have hb := B.bytes
  have hr := B.returns
  have hts := atoms_spec (ws := wsX1_takeNewest) B.pre
  have hown : s.vm.findClass RX1 = some m.cls := findClass_of_methodNamed B.named
  have hlocks := B.notSynchronized
  subst hsz
  have hD := hD0.self (sz := s.heap.size)
  generalize hAe : va_A [(k0, .inr (2, [.ref k1, .ref k2, .ref k3, .ref k4, .int nx, .int nw, .int rw]))] s.heap.size = A at hD ⊢
  have hA : ∀ q : Nat, s.heap.size ≤ q → A q := fun q h => by rw [← hAe]; exact Or.inr h
  have hS : va_S A s.heap s.heap [] := va_S.rf
  have hl := lv_entry ([.ref k0]) (n := 1) (Nat.le_of_ble_eq_true rfl)
  rw [lg_entry_eq]
  generalize (lg_sl ([.ref k0]) ++ List.replicate (1 - (lg_sl ([.ref k0])).length) Slot.unset).toArray = ls at hl ⊢
  have hl : lv_has ls 1 [(0, .ref k0)] := hl
  refine lv_aload_n hx hb dX1_takeNewest_0 rfl (lv_at hl 0 rfl) ?_
  refine lv_aload_n hx hb dX1_takeNewest_1 rfl (lv_at hl 0 rfl) ?_
  refine va_get (D := (dC, dI)) (ci := 2) (v := .int nx) (C := RX1) (T := TX1) (N := 7) hx hb hts (by decide +kernel) hown hK hP 0 rfl rfl 4 (by decide) (hts (.fieldLink RX1 25 "CobolDebugger$Kept" "next" "I") (by decide +kernel)) (fun _ h9 => h9) rfl dX1_takeNewest_2 ?_
  refine lv_sipush (v := 300) hx hb dX1_takeNewest_5 (by decide) ?_
  refine lv_iadd hx hb dX1_takeNewest_8 ?_
  refine lv_iconst (v := 1) hx hb dX1_takeNewest_9 (by decide) ?_
  refine lv_isub hx hb dX1_takeNewest_10 ?_
  refine lv_sipush (v := 300) hx hb dX1_takeNewest_11 (by decide) ?_
  refine lv_irem hx hb dX1_takeNewest_14 (by decide) ?_
  refine lv_topi (fun v_1 e_v_1 => ?_)
  refine va_put (D := (dC, dI)) (ci := 2) (v := .int v_1) (ty := .int) (C := RX1) (T := TX1) (N := 7) hx hb hts (by decide +kernel) tyX1 tyX1_ok nmX1 hown hK hP hD hS 0 rfl rfl 4 (by decide) (hts (.fieldLink RX1 25 "CobolDebugger$Kept" "next" "I") (by decide +kernel)) (fun _ h9 => h9) rfl (by decide +kernel) rfl rfl (Nat.le_of_ble_eq_true rfl) dX1_takeNewest_15 (fun H locs hP hD hS => ?_)
  have hP : va_P (dC, dI) vwCl [(k0, .inr (2, [.ref k1, .ref k2, .ref k3, .ref k4, .int v_1, .int nw, .int rw]))] H := hP
  have hD : va_D A [(k0, .inr (2, [.ref k1, .ref k2, .ref k3, .ref k4, .int v_1, .int nw, .int rw]))] := hD
  have hrr := rem_k (x := nx + 300 - 1) (k := 300) (n := 300) (by decide) (by decide) (by rw [i_s1 (by rw [i_k (n := 300) 300 (by decide) (by omega) (by omega)]; omega), i_k (n := 300) 300 (by decide) (by omega) (by omega)]; omega) (by decide)
  have hn0 : 0 ≤ v_1.toInt := by rw [e_v_1]; exact hrr.1
  have hn1 : v_1.toInt < 300 := by rw [e_v_1]; exact hrr.2
  refine lv_aload_n hx hb dX1_takeNewest_18 rfl (lv_at hl 0 rfl) ?_
  refine lv_aload_n hx hb dX1_takeNewest_19 rfl (lv_at hl 0 rfl) ?_
  refine va_get (D := (dC, dI)) (ci := 2) (v := .int v_1) (C := RX1) (T := TX1) (N := 7) hx hb hts (by decide +kernel) hown hK hP 0 rfl rfl 4 (by decide) (hts (.fieldLink RX1 25 "CobolDebugger$Kept" "next" "I") (by decide +kernel)) (fun _ h9 => h9) rfl dX1_takeNewest_20 ?_
  refine va_put (D := (dC, dI)) (ci := 2) (v := .int v_1) (ty := .int) (C := RX1) (T := TX1) (N := 7) hx hb hts (by decide +kernel) tyX1 tyX1_ok nmX1 hown hK hP hD hS 0 rfl rfl 5 (by decide) (hts (.fieldLink RX1 29 "CobolDebugger$Kept" "newest" "I") (by decide +kernel)) (fun _ h9 => h9) rfl (by decide +kernel) rfl rfl (Nat.le_of_ble_eq_true rfl) dX1_takeNewest_23 (fun H locs hP hD hS => ?_)
  have hP : va_P (dC, dI) vwCl [(k0, .inr (2, [.ref k1, .ref k2, .ref k3, .ref k4, .int v_1, .int v_1, .int rw]))] H := hP
  have hD : va_D A [(k0, .inr (2, [.ref k1, .ref k2, .ref k3, .ref k4, .int v_1, .int v_1, .int rw]))] := hD
  refine lv_aload_n hx hb dX1_takeNewest_26 rfl (lv_at hl 0 rfl) ?_
  refine lv_dup hx hb dX1_takeNewest_27 rfl ?_
  refine va_get (D := (dC, dI)) (ci := 2) (v := .int rw) (C := RX1) (T := TX1) (N := 7) hx hb hts (by decide +kernel) hown hK hP 0 rfl rfl 6 (by decide) (hts (.fieldLink RX1 32 "CobolDebugger$Kept" "rows" "I") (by decide +kernel)) (fun _ h9 => h9) rfl dX1_takeNewest_28 ?_
  refine lv_iconst (v := 1) hx hb dX1_takeNewest_31 (by decide) ?_
  refine lv_isub hx hb dX1_takeNewest_32 ?_
  refine lv_topi (fun v_2 e_v_2 => ?_)
  refine va_put (D := (dC, dI)) (ci := 2) (v := .int v_2) (ty := .int) (C := RX1) (T := TX1) (N := 7) hx hb hts (by decide +kernel) tyX1 tyX1_ok nmX1 hown hK hP hD hS 0 rfl rfl 6 (by decide) (hts (.fieldLink RX1 32 "CobolDebugger$Kept" "rows" "I") (by decide +kernel)) (fun _ h9 => h9) rfl (by decide +kernel) rfl rfl (Nat.le_of_ble_eq_true rfl) dX1_takeNewest_33 (fun H locs hP hD hS => ?_)
  have hP : va_P (dC, dI) vwCl [(k0, .inr (2, [.ref k1, .ref k2, .ref k3, .ref k4, .int v_1, .int v_1, .int v_2]))] H := hP
  have hD : va_D A [(k0, .inr (2, [.ref k1, .ref k2, .ref k3, .ref k4, .int v_1, .int v_1, .int v_2]))] := hD
  exact W.vret hx hb hr (fun t ht hW => ⟨⟨(v_1, v_1, v_2), rfl, ⟨hn0, hn1, hn0, hn1⟩, by rw [ht]; exact hP, hD⟩, hS.F ht⟩) hS.2.2 dX1_takeNewest_36

set_option maxHeartbeats 4000000 in
set_option maxRecDepth 100000 in
theorem c_X1_newestStatement (l : Launch) (dC : Nat → ClassId) (dI : Nat → Nat → Nat) (k0 k1 k2 k3 k4 : Nat) (kk1 : ClassId) (nu : Nat → Int32) (nx nw rw : Int32) (hnw0 : 0 ≤ nw.toInt) (hnw1 : nw.toInt < 300) : Met l yX1_newestStatement wsX1_newestStatement ({ frames := 0, cells := 0, slots := 0, locals := 0 }) (va_Pc [.ref k0] (fun U => va_P (dC, dI) vwCl [(k0, .inr (2, [.ref k1, .ref k2, .ref k3, .ref k4, .int nx, .int nw, .int rw])), (k1, .inl (kk1, 300, .inl nu))] U.heap ∧ va_K (dC, dI) vwCl [(kk1, .int)] U)) (va_Qi (fun (r : Int32) (_ : Unit) => ∃ j, r = nu j) (fun _ _ => True) (fun _ => False)) 0 0 (fun _ => False) := by
  refine Met.ofW (cc := cX1_newestStatement) (maxL := 1) (ret := (some .int)) (by decide) rfl ?_
  intro p e s m args below meth c s₁ B hml hv
  obtain ⟨rfl, hP, hK⟩ := hv
  have hx := B.exec
  have hb := B.bytes
  have hr := B.returns
  have hts := atoms_spec (ws := wsX1_newestStatement) B.pre
  have hown : s.vm.findClass RX1 = some m.cls := findClass_of_methodNamed B.named
  have hlocks := B.notSynchronized
  have hS : va_S (fun _ => False) s.heap s.heap [] := va_S.rf
  have hl := lv_entry ([.ref k0]) (n := 1) (Nat.le_of_ble_eq_true rfl)
  rw [lg_entry_eq]
  generalize (lg_sl ([.ref k0]) ++ List.replicate (1 - (lg_sl ([.ref k0])).length) Slot.unset).toArray = ls at hl ⊢
  have hl : lv_has ls 1 [(0, .ref k0)] := hl
  refine lv_aload_n hx hb dX1_newestStatement_0 rfl (lv_at hl 0 rfl) ?_
  refine va_get (D := (dC, dI)) (ci := 2) (v := .ref k1) (C := RX1) (T := TX1) (N := 7) hx hb hts (by decide +kernel) hown hK hP 0 rfl rfl 0 (by decide) (hts (.fieldLink RX1 9 "CobolDebugger$Kept" "numbers" "[I") (by decide +kernel)) (fun _ h9 => h9) rfl dX1_newestStatement_1 ?_
  refine lv_aload_n hx hb dX1_newestStatement_4 rfl (lv_at hl 0 rfl) ?_
  refine va_get (D := (dC, dI)) (ci := 2) (v := .int nw) (C := RX1) (T := TX1) (N := 7) hx hb hts (by decide +kernel) hown hK hP 0 rfl rfl 5 (by decide) (hts (.fieldLink RX1 29 "CobolDebugger$Kept" "newest" "I") (by decide +kernel)) (fun _ h9 => h9) rfl dX1_newestStatement_5 ?_
  refine va_iald hx hb hK hP 1 0 rfl rfl (i := nw) (ix_r hnw0 hnw1) dX1_newestStatement_8 ?_
  exact W.iret (v := nu nw.toNatClampNeg) hx hb hr (fun t ht hW => ⟨⟨(nu nw.toNatClampNeg), (), rfl, ⟨_, rfl⟩, trivial⟩, hS.F ht⟩) hS.2.2 dX1_newestStatement_9

set_option maxHeartbeats 4000000 in
set_option maxRecDepth 100000 in
theorem c_X1_newestEntered (l : Launch) (dC : Nat → ClassId) (dI : Nat → Nat → Nat) (k0 k1 k2 k3 k4 : Nat) (kk4 : ClassId) (lf : Nat → Int32) (nx nw rw : Int32) (hnw0 : 0 ≤ nw.toInt) (hnw1 : nw.toInt < 300) : Met l yX1_newestEntered wsX1_newestEntered ({ frames := 0, cells := 0, slots := 0, locals := 0 }) (va_Pc [.ref k0] (fun U => va_P (dC, dI) vwCl [(k0, .inr (2, [.ref k1, .ref k2, .ref k3, .ref k4, .int nx, .int nw, .int rw])), (k4, .inl (kk4, 300, .inl lf))] U.heap ∧ va_K (dC, dI) vwCl [(kk4, .int)] U)) (va_Qi (fun (r : Int32) (_ : Unit) => True) (fun _ _ => True) (fun _ => False)) 0 0 (fun _ => False) := by
  refine Met.ofW (cc := cX1_newestEntered) (maxL := 1) (ret := (some .boolean)) (by decide) rfl ?_
  intro p e s m args below meth c s₁ B hml hv
  obtain ⟨rfl, hP, hK⟩ := hv
  have hx := B.exec
  have hb := B.bytes
  have hr := B.returns
  have hts := atoms_spec (ws := wsX1_newestEntered) B.pre
  have hown : s.vm.findClass RX1 = some m.cls := findClass_of_methodNamed B.named
  have hlocks := B.notSynchronized
  have hS : va_S (fun _ => False) s.heap s.heap [] := va_S.rf
  have hl := lv_entry ([.ref k0]) (n := 1) (Nat.le_of_ble_eq_true rfl)
  rw [lg_entry_eq]
  generalize (lg_sl ([.ref k0]) ++ List.replicate (1 - (lg_sl ([.ref k0])).length) Slot.unset).toArray = ls at hl ⊢
  have hl : lv_has ls 1 [(0, .ref k0)] := hl
  refine lv_aload_n hx hb dX1_newestEntered_0 rfl (lv_at hl 0 rfl) ?_
  refine va_get (D := (dC, dI)) (ci := 2) (v := .ref k4) (C := RX1) (T := TX1) (N := 7) hx hb hts (by decide +kernel) hown hK hP 0 rfl rfl 3 (by decide) (hts (.fieldLink RX1 22 "CobolDebugger$Kept" "lefts" "[I") (by decide +kernel)) (fun _ h9 => h9) rfl dX1_newestEntered_1 ?_
  refine lv_aload_n hx hb dX1_newestEntered_4 rfl (lv_at hl 0 rfl) ?_
  refine va_get (D := (dC, dI)) (ci := 2) (v := .int nw) (C := RX1) (T := TX1) (N := 7) hx hb hts (by decide +kernel) hown hK hP 0 rfl rfl 5 (by decide) (hts (.fieldLink RX1 29 "CobolDebugger$Kept" "newest" "I") (by decide +kernel)) (fun _ h9 => h9) rfl dX1_newestEntered_5 ?_
  refine va_iald hx hb hK hP 1 0 rfl rfl (i := nw) (ix_r hnw0 hnw1) dX1_newestEntered_8 ?_
  refine lv_iconst (v := (-1)) hx hb dX1_newestEntered_9 (by decide) ?_
  refine lv_icmp_ne (tgt := 17) hx hb dX1_newestEntered_10 (by decide) (fun c_10 => ?_) (fun c_10 => ?_)
  · refine lv_iconst (v := 0) hx hb dX1_newestEntered_17 (by decide) ?_
    exact W.zret (v := 0) hx hb hr (by decide) (fun t ht hW => ⟨⟨0, (), rfl, trivial, trivial⟩, hS.F ht⟩) hS.2.2 dX1_newestEntered_18
  · refine lv_iconst (v := 1) hx hb dX1_newestEntered_13 (by decide) ?_
    refine lv_goto (tgt := 18) hx hb dX1_newestEntered_14 (by decide) ?_
    exact W.zret (v := 1) hx hb hr (by decide) (fun t ht hW => ⟨⟨1, (), rfl, trivial, trivial⟩, hS.F ht⟩) hS.2.2 dX1_newestEntered_18

set_option maxHeartbeats 4000000 in
set_option maxRecDepth 100000 in
theorem c_X1_newestLeft (l : Launch) (dC : Nat → ClassId) (dI : Nat → Nat → Nat) (k0 k1 k2 k3 k4 : Nat) (kk4 : ClassId) (lf : Nat → Int32) (nx nw rw : Int32) (hnw0 : 0 ≤ nw.toInt) (hnw1 : nw.toInt < 300) : Met l yX1_newestLeft wsX1_newestLeft ({ frames := 1, cells := 0, slots := 0, locals := 16 }) (va_Pc [.ref k0] (fun U => va_P (dC, dI) vwCl [(k0, .inr (2, [.ref k1, .ref k2, .ref k3, .ref k4, .int nx, .int nw, .int rw])), (k4, .inl (kk4, 300, .inl lf))] U.heap ∧ va_K (dC, dI) vwCl [(kk4, .int)] U)) (va_Qi (fun (r : Int32) (_ : Unit) => True) (fun _ _ => True) (fun _ => False)) 0 0 (fun _ => False) := by
  refine Met.ofW (cc := cX1_newestLeft) (maxL := 1) (ret := (some .int)) (by decide) rfl ?_
  intro p e s m args below meth c s₁ B hml hv
  obtain ⟨rfl, hP, hK⟩ := hv
  have hx := B.exec
  have hb := B.bytes
  have hr := B.returns
  have hts := atoms_spec (ws := wsX1_newestLeft) B.pre
  have hown : s.vm.findClass RX1 = some m.cls := findClass_of_methodNamed B.named
  have hlocks := B.notSynchronized
  have hS : va_S (fun _ => False) s.heap s.heap [] := va_S.rf
  have hl := lv_entry ([.ref k0]) (n := 1) (Nat.le_of_ble_eq_true rfl)
  rw [lg_entry_eq]
  generalize (lg_sl ([.ref k0]) ++ List.replicate (1 - (lg_sl ([.ref k0])).length) Slot.unset).toArray = ls at hl ⊢
  have hl : lv_has ls 1 [(0, .ref k0)] := hl
  refine lv_iconst (v := 0) hx hb dX1_newestLeft_0 (by decide) ?_
  refine lv_aload_n hx hb dX1_newestLeft_1 rfl (lv_at hl 0 rfl) ?_
  refine va_get (D := (dC, dI)) (ci := 2) (v := .ref k4) (C := RX1) (T := TX1) (N := 7) hx hb hts (by decide +kernel) hown hK hP 0 rfl rfl 3 (by decide) (hts (.fieldLink RX1 22 "CobolDebugger$Kept" "lefts" "[I") (by decide +kernel)) (fun _ h9 => h9) rfl dX1_newestLeft_2 ?_
  refine lv_aload_n hx hb dX1_newestLeft_5 rfl (lv_at hl 0 rfl) ?_
  refine va_get (D := (dC, dI)) (ci := 2) (v := .int nw) (C := RX1) (T := TX1) (N := 7) hx hb hts (by decide +kernel) hown hK hP 0 rfl rfl 5 (by decide) (hts (.fieldLink RX1 29 "CobolDebugger$Kept" "newest" "I") (by decide +kernel)) (fun _ h9 => h9) rfl dX1_newestLeft_6 ?_
  refine va_iald hx hb hK hP 1 0 rfl rfl (i := nw) (ix_r hnw0 hnw1) dX1_newestLeft_9 ?_
  refine va_mmax hx hb (by rw [hml]; exact hl.1.symm) hown (hts (.methodLink RX1 52 Lib.Math.max.name) (by decide +kernel)) (hts (.static Lib.Math.max.name) (by decide +kernel)) (hts (.initialized "java/lang/Math") (by decide +kernel)) (hts (.code Lib.Math.max.name Lib.Math.max.code 2 (some .int)) (by decide +kernel)) (Nat.le_of_ble_eq_true rfl) (Nat.le_of_ble_eq_true rfl) (Nat.le_of_ble_eq_true rfl) (Nat.le_of_ble_eq_true rfl) dX1_newestLeft_10 ?_
  exact W.iret (v := if 0 < lf nw.toNatClampNeg then lf nw.toNatClampNeg else 0) hx hb hr (fun t ht hW => ⟨⟨(if 0 < lf nw.toNatClampNeg then lf nw.toNatClampNeg else 0), (), rfl, trivial, trivial⟩, hS.F ht⟩) hS.2.2 dX1_newestLeft_13

set_option maxHeartbeats 4000000 in
set_option maxRecDepth 100000 in
theorem c_X1_restoreBytes (l : Launch) (dC : Nat → ClassId) (dI : Nat → Nat → Nat) (sz : Nat) (k0 k1 k2 k3 k4 a0 a1 a2 a3 : Nat) (kk2 kk3 ka3 : ClassId) (io kb bs : Nat → Int32) (nx nw rw md : Int32) (hnw0 : 0 ≤ nw.toInt) (hnw1 : nw.toInt < 300) (hm1 : md.toInt ≤ 30) (hfb : fitB bs) (hfk : fitB kb) : Met l yX1_restoreBytes wsX1_restoreBytes ({ frames := 1, cells := 0, slots := 0, locals := 100 }) (va_Pc [.ref k0, .ref a0] (fun U => U.heap.size = sz ∧ va_P (dC, dI) vwCl [(k0, .inr (2, [.ref k1, .ref k2, .ref k3, .ref k4, .int nx, .int nw, .int rw])), (k2, .inl (kk2, 300, .inl io)), (k3, .inl (kk3, 2700, .inl kb)), (a0, .inr (1, [.ref a1, .ref a2, .ref a3, .int md])), (a3, .inl (ka3, 270, .inl bs))] U.heap ∧ va_K (dC, dI) vwCl [(kk2, .int), (kk3, .byte), (ka3, .byte)] U ∧ va_D (fun _ => True) [(k0, .inr (2, [.ref k1, .ref k2, .ref k3, .ref k4, .int nx, .int nw, .int rw])), (k2, .inl (kk2, 300, .inl io)), (k3, .inl (kk3, 2700, .inl kb)), (a0, .inr (1, [.ref a1, .ref a2, .ref a3, .int md])), (a3, .inl (ka3, 270, .inl bs))] ∧ nW U)) (va_Qv (fun (u : (Nat → Int32)) => fitB (u)) (fun (u : (Nat → Int32)) (t : State) => va_P (dC, dI) vwCl [(k0, .inr (2, [.ref k1, .ref k2, .ref k3, .ref k4, .int nx, .int nw, .int rw])), (k2, .inl (kk2, 300, .inl io)), (k3, .inl (kk3, 2700, .inl kb)), (a0, .inr (1, [.ref a1, .ref a2, .ref a3, .int md])), (a3, .inl (ka3, 270, .inl u))] t.heap ∧ va_D (va_A [(k0, .inr (2, [.ref k1, .ref k2, .ref k3, .ref k4, .int nx, .int nw, .int rw])), (k2, .inl (kk2, 300, .inl io)), (k3, .inl (kk3, 2700, .inl kb)), (a0, .inr (1, [.ref a1, .ref a2, .ref a3, .int md])), (a3, .inl (ka3, 270, .inl bs))] sz) [(k0, .inr (2, [.ref k1, .ref k2, .ref k3, .ref k4, .int nx, .int nw, .int rw])), (k2, .inl (kk2, 300, .inl io)), (k3, .inl (kk3, 2700, .inl kb)), (a0, .inr (1, [.ref a1, .ref a2, .ref a3, .int md])), (a3, .inl (ka3, 270, .inl u))]) (va_A [(k0, .inr (2, [.ref k1, .ref k2, .ref k3, .ref k4, .int nx, .int nw, .int rw])), (k2, .inl (kk2, 300, .inl io)), (k3, .inl (kk3, 2700, .inl kb)), (a0, .inr (1, [.ref a1, .ref a2, .ref a3, .int md])), (a3, .inl (ka3, 270, .inl bs))] sz)) 0 0 (va_A [(k0, .inr (2, [.ref k1, .ref k2, .ref k3, .ref k4, .int nx, .int nw, .int rw])), (k2, .inl (kk2, 300, .inl io)), (k3, .inl (kk3, 2700, .inl kb)), (a0, .inr (1, [.ref a1, .ref a2, .ref a3, .int md])), (a3, .inl (ka3, 270, .inl bs))] sz) := by
  refine Met.ofW (cc := cX1_restoreBytes) (maxL := 3) (ret := none) (by decide) rfl ?_
  intro p e s m args below meth c s₁ B hml hv
  obtain ⟨rfl, hsz, hP, hK, hD0, hN⟩ := hv
  have hx := B.exec
  have hb := B.bytes
  have hr := B.returns
  have hts := atoms_spec (ws := wsX1_restoreBytes) B.pre
  have hown : s.vm.findClass RX1 = some m.cls := findClass_of_methodNamed B.named
  have hlocks := B.notSynchronized
  subst hsz
  have hD := hD0.self (sz := s.heap.size)
  generalize hAe : va_A [(k0, .inr (2, [.ref k1, .ref k2, .ref k3, .ref k4, .int nx, .int nw, .int rw])), (k2, .inl (kk2, 300, .inl io)), (k3, .inl (kk3, 2700, .inl kb)), (a0, .inr (1, [.ref a1, .ref a2, .ref a3, .int md])), (a3, .inl (ka3, 270, .inl bs))] s.heap.size = A at hD ⊢
  have hA : ∀ q : Nat, s.heap.size ≤ q → A q := fun q h => by rw [← hAe]; exact Or.inr h
  have hS : va_S A s.heap s.heap [] := va_S.rf
  have hl := lv_entry ([.ref k0, .ref a0]) (n := 3) (Nat.le_of_ble_eq_true rfl)
  rw [lg_entry_eq]
  generalize (lg_sl ([.ref k0, .ref a0]) ++ List.replicate (3 - (lg_sl ([.ref k0, .ref a0])).length) Slot.unset).toArray = ls at hl ⊢
  have hl : lv_has ls 3 [(0, .ref k0), (1, .ref a0)] := hl
  refine lv_aload_n hx hb dX1_restoreBytes_0 rfl (lv_at hl 0 rfl) ?_
  refine va_get (D := (dC, dI)) (ci := 2) (v := .ref k2) (C := RX1) (T := TX1) (N := 7) hx hb hts (by decide +kernel) hown hK hP 0 rfl rfl 1 (by decide) (hts (.fieldLink RX1 13 "CobolDebugger$Kept" "itemsOf" "[I") (by decide +kernel)) (fun _ h9 => h9) rfl dX1_restoreBytes_1 ?_
  refine lv_aload_n hx hb dX1_restoreBytes_4 rfl (lv_at hl 0 rfl) ?_
  refine va_get (D := (dC, dI)) (ci := 2) (v := .int nw) (C := RX1) (T := TX1) (N := 7) hx hb hts (by decide +kernel) hown hK hP 0 rfl rfl 5 (by decide) (hts (.fieldLink RX1 29 "CobolDebugger$Kept" "newest" "I") (by decide +kernel)) (fun _ h9 => h9) rfl dX1_restoreBytes_5 ?_
  refine va_iald hx hb hK hP 1 0 rfl rfl (i := nw) (ix_r hnw0 hnw1) dX1_restoreBytes_8 ?_
  refine lv_topi (fun im e_im => ?_)
  refine lv_istore_n (lv' := [(2, .int im), (0, .ref k0), (1, .ref a0)]) hx hb dX1_restoreBytes_9 rfl hl (by decide) rfl (fun ls hl => ?_)
  refine lv_aload_n hx hb dX1_restoreBytes_10 rfl (lv_at hl 2 rfl) ?_
  refine lv_iload_n hx hb dX1_restoreBytes_11 rfl (lv_at hl 0 rfl) ?_
  have hPc := hP.sub (ws' := [(a0, .inr (1, [.ref a1, .ref a2, .ref a3, .int md]))]) [3] rfl
  have hKc := hK.sub (tys' := []) [] rfl
  refine va_calli (va_runVN (C := RX0) (As := [.int im]) (rest := []) ⟨hx, hb, hml, hown, hts⟩ (c_X0_has l dC dI a0 a1 a2 a3 md im) ⟨va_cnB 1 hts gX1_restoreBytes_X0_has_n41 rfl rfl rfl (nwm hN (RX1, 41, yX0_has, RX4) (by decide +kernel)) (hts (.initialized RX0) (by decide +kernel)) (by decide +kernel) ⟨Nat.le_of_ble_eq_true rfl, Nat.le_of_ble_eq_true rfl⟩, hts (.instanceMethod yX0_has) (by decide +kernel), hts (.selects RX0 yX0_has yX0_has) (by decide +kernel)⟩ ⟨fun a U g mk q => by obtain ⟨q0, qP, qK⟩ := q; exact ⟨q0, qP, va_K.moved (u := U) (U := U.calling g mk a) (Vm.Alike.refl U.vm) qK⟩, va_recv hKc hPc (ci := 1) (q0 := 0) rfl rfl, fun U hU hW => ⟨rfl, by rw [hU]; exact hPc, va_K.moved hW.alike hKc⟩⟩ rfl rfl hl.1 rfl (lv_room (Nat.le_of_ble_eq_true rfl)) dX1_restoreBytes_12 ⟨Nat.zero_le _, Nat.zero_le _⟩) hS (fun q _ h => h.elim) (fun q h => h.elim) (fun r_12 u t H1 locs ht hvm w_12 hB hz1 hk1 hS => ?_)
  try dsimp only at w_12
  have hP := rd_keep hP hk1
  clear hB hk1 hz1 ht hvm u t
  generalize H1 = H at hP hS ⊢
  have w_12 := z01 w_12
  refine lv_if_eq (tgt := 42) hx hb dX1_restoreBytes_15 (by decide) (fun c_15 => ?_) (fun c_15 => ?_)
  · exact W.vret hx hb hr (fun t ht hW => ⟨⟨bs, rfl, hfb, by rw [ht]; exact hP, hD⟩, hS.F ht⟩) hS.2.2 dX1_restoreBytes_42
  · have him : vp_in im 30 := ix_m hm1 (fun h => c_15 (w_12.mpr (Or.inl h))) (fun h => c_15 (w_12.mpr (Or.inr h)))
    have hin : vp_in nw 300 := ix_r hnw0 hnw1
    refine lv_aload_n hx hb dX1_restoreBytes_18 rfl (lv_at hl 1 rfl) ?_
    refine va_get (D := (dC, dI)) (ci := 2) (v := .ref k3) (C := RX1) (T := TX1) (N := 7) hx hb hts (by decide +kernel) hown hK hP 0 rfl rfl 2 (by decide) (hts (.fieldLink RX1 18 "CobolDebugger$Kept" "bytes" "[B") (by decide +kernel)) (fun _ h9 => h9) rfl dX1_restoreBytes_19 ?_
    refine lv_aload_n hx hb dX1_restoreBytes_22 rfl (lv_at hl 1 rfl) ?_
    refine va_get (D := (dC, dI)) (ci := 2) (v := .int nw) (C := RX1) (T := TX1) (N := 7) hx hb hts (by decide +kernel) hown hK hP 0 rfl rfl 5 (by decide) (hts (.fieldLink RX1 29 "CobolDebugger$Kept" "newest" "I") (by decide +kernel)) (fun _ h9 => h9) rfl dX1_restoreBytes_23 ?_
    refine lv_bipush (v := 9) hx hb dX1_restoreBytes_26 (by decide) ?_
    refine lv_imul hx hb dX1_restoreBytes_28 ?_
    refine lv_aload_n hx hb dX1_restoreBytes_29 rfl (lv_at hl 2 rfl) ?_
    refine va_getN (D := (dC, dI)) (ci := 1) (v := .ref a3) (C := RX0) (T := TX0) (N := 4) hx hb hts (by decide +kernel) hown hK hP 3 rfl rfl 2 (by decide) (va_Nw.use (w := .fieldLinkNest RX1 45 "CobolDebugger$Items" "bytes" "[B" RX4) rfl (nwf hN (RX1, 45, "CobolDebugger$Items", "bytes", "[B", RX4) (by decide +kernel))) (fun _ h9 => h9) rfl dX1_restoreBytes_30 ?_
    refine lv_iload_n hx hb dX1_restoreBytes_33 rfl (lv_at hl 0 rfl) ?_
    refine lv_bipush (v := 9) hx hb dX1_restoreBytes_34 (by decide) ?_
    refine lv_imul hx hb dX1_restoreBytes_36 ?_
    refine lv_bipush (v := 9) hx hb dX1_restoreBytes_37 (by decide) ?_
    refine va_copyi hx hb (by rw [hml]; exact hl.1.symm) hown (hts (.methodLink RX1 46 arraycopyName) (by decide +kernel)) (hts (.native arraycopyName) (by decide +kernel)) (hts (.static arraycopyName) (by decide +kernel)) (hts (.initialized "java/lang/System") (by decide +kernel)) hK hP hD hS 2 4 1 2 rfl rfl rfl rfl rfl (sp := nw * 9) (dp := im * 9) (n := 9) (m9 (N := 2700) hin rfl (by decide)).1 (m9 (N := 270) him rfl (by decide)).1 (by decide) (m9 (N := 2700) hin rfl (by decide)).2 (m9 (N := 270) him rfl (by decide)).2 (fun i _ => hfk _) (Nat.le_of_ble_eq_true rfl) (Nat.le_of_ble_eq_true rfl) dX1_restoreBytes_39 (fun H locs hP hD hS => ?_)
    have hP : va_P (dC, dI) vwCl [(k0, .inr (2, [.ref k1, .ref k2, .ref k3, .ref k4, .int nx, .int nw, .int rw])), (k2, .inl (kk2, 300, .inl io)), (k3, .inl (kk3, 2700, .inl kb)), (a0, .inr (1, [.ref a1, .ref a2, .ref a3, .int md])), (a3, .inl (ka3, 270, .inl (va_cpy kb bs (nw * 9).toNatClampNeg (im * 9).toNatClampNeg (9 : Int32).toNatClampNeg)))] H := hP
    have hD : va_D A [(k0, .inr (2, [.ref k1, .ref k2, .ref k3, .ref k4, .int nx, .int nw, .int rw])), (k2, .inl (kk2, 300, .inl io)), (k3, .inl (kk3, 2700, .inl kb)), (a0, .inr (1, [.ref a1, .ref a2, .ref a3, .int md])), (a3, .inl (ka3, 270, .inl (va_cpy kb bs (nw * 9).toNatClampNeg (im * 9).toNatClampNeg (9 : Int32).toNatClampNeg)))] := hD
    obtain ⟨g_1, e_g_1⟩ : ∃ y, y = va_cpy kb bs (nw * 9).toNatClampNeg (im * 9).toNatClampNeg (9 : Int32).toNatClampNeg := ⟨_, rfl⟩
    rw [← e_g_1] at hP hD
    exact W.vret hx hb hr (fun t ht hW => ⟨⟨g_1, rfl, by rw [e_g_1]; exact fitB_cpy hfk hfb _ _ _, by rw [ht]; exact hP, hD⟩, hS.F ht⟩) hS.2.2 dX1_restoreBytes_42
