set_option maxHeartbeats 4000000 in
set_option maxRecDepth 100000 in
theorem c_X4_isParagraph (l : Launch) (dC : Nat → ClassId) (dI : Nat → Nat → Nat) (pa : Int32)  : Met l yX4_isParagraph wsX4_isParagraph ({ frames := 0, cells := 0, slots := 0, locals := 0 }) (va_Pc [.int pa] (fun U => va_P (dC, dI) vwCl [] U.heap ∧ va_K (dC, dI) vwCl [] U)) (va_Qi (fun (r : Int32) (_ : Unit) => r = if pa < 0 ∨ 20 ≤ pa then 0 else 1) (fun _ _ => True) (fun _ => False)) 0 0 (fun _ => False) := by
  refine Met.ofW (cc := cX4_isParagraph) (maxL := 1) (ret := (some .boolean)) (by decide) rfl ?_
  intro p e s m args below meth c s₁ B hml hv
  obtain ⟨rfl, hP, hK⟩ := hv
  have hx := B.exec
  have hb := B.bytes
  have hr := B.returns
  have hts := atoms_spec (ws := wsX4_isParagraph) B.pre
  have hown : s.vm.findClass RX4 = some m.cls := findClass_of_methodNamed B.named
  have hlocks := B.notSynchronized
  have hS : va_S (fun _ => False) s.heap s.heap [] := va_S.rf
  have hl := lv_entry ([.int pa]) (n := 1) (Nat.le_of_ble_eq_true rfl)
  rw [lg_entry_eq]
  generalize (lg_sl ([.int pa]) ++ List.replicate (1 - (lg_sl ([.int pa])).length) Slot.unset).toArray = ls at hl ⊢
  have hl : lv_has ls 1 [(0, .int pa)] := hl
  refine lv_iload_n hx hb dX4_isParagraph_0 rfl (lv_at hl 0 rfl) ?_
  refine lv_if_lt (tgt := 14) hx hb dX4_isParagraph_1 (by decide) (fun c_1 => ?_) (fun c_1 => ?_)
  · refine lv_iconst (v := 0) hx hb dX4_isParagraph_14 (by decide) ?_
    exact W.zret (v := 0) hx hb hr (by decide) (fun t ht hW => ⟨⟨0, (), rfl, by simp [c_1], trivial⟩, hS.F ht⟩) hS.2.2 dX4_isParagraph_15
  · refine lv_iload_n hx hb dX4_isParagraph_4 rfl (lv_at hl 0 rfl) ?_
    refine lv_bipush (v := 20) hx hb dX4_isParagraph_5 (by decide) ?_
    refine lv_icmp_ge (tgt := 14) hx hb dX4_isParagraph_7 (by decide) (fun c_7 => ?_) (fun c_7 => ?_)
    · refine lv_iconst (v := 0) hx hb dX4_isParagraph_14 (by decide) ?_
      exact W.zret (v := 0) hx hb hr (by decide) (fun t ht hW => ⟨⟨0, (), rfl, by simp [c_1, c_7], trivial⟩, hS.F ht⟩) hS.2.2 dX4_isParagraph_15
    · refine lv_iconst (v := 1) hx hb dX4_isParagraph_10 (by decide) ?_
      refine lv_goto (tgt := 15) hx hb dX4_isParagraph_11 (by decide) ?_
      exact W.zret (v := 1) hx hb hr (by decide) (fun t ht hW => ⟨⟨1, (), rfl, by simp [c_1, c_7], trivial⟩, hS.F ht⟩) hS.2.2 dX4_isParagraph_15

set_option maxHeartbeats 4000000 in
set_option maxRecDepth 100000 in
theorem c_X0_canBe (l : Launch) (dC : Nat → ClassId) (dI : Nat → Nat → Nat) (ug : Int32) (sz : Int32)  : Met l yX0_canBe wsX0_canBe ({ frames := 0, cells := 0, slots := 0, locals := 0 }) (va_Pc [.int ug, .int sz] (fun U => va_P (dC, dI) vwCl [] U.heap ∧ va_K (dC, dI) vwCl [] U)) (va_Qi (fun (r : Int32) (_ : Unit) => r = if ug < 0 ∨ 2 < ug ∨ sz < 1 ∨ (if ug = 1 then 4 else 9) < sz then 0 else 1) (fun _ _ => True) (fun _ => False)) 0 0 (fun _ => False) := by
  refine Met.ofW (cc := cX0_canBe) (maxL := 2) (ret := (some .boolean)) (by decide) rfl ?_
  intro p e s m args below meth c s₁ B hml hv
  obtain ⟨rfl, hP, hK⟩ := hv
  have hx := B.exec
  have hb := B.bytes
  have hr := B.returns
  have hts := atoms_spec (ws := wsX0_canBe) B.pre
  have hown : s.vm.findClass RX0 = some m.cls := findClass_of_methodNamed B.named
  have hlocks := B.notSynchronized
  have hS : va_S (fun _ => False) s.heap s.heap [] := va_S.rf
  have hl := lv_entry ([.int ug, .int sz]) (n := 2) (Nat.le_of_ble_eq_true rfl)
  rw [lg_entry_eq]
  generalize (lg_sl ([.int ug, .int sz]) ++ List.replicate (2 - (lg_sl ([.int ug, .int sz])).length) Slot.unset).toArray = ls at hl ⊢
  have hl : lv_has ls 2 [(0, .int ug), (1, .int sz)] := hl
  refine lv_iload_n hx hb dX0_canBe_0 rfl (lv_at hl 0 rfl) ?_
  refine lv_if_lt (tgt := 9) hx hb dX0_canBe_1 (by decide) (fun c_1 => ?_) (fun c_1 => ?_)
  · refine lv_iconst (v := 0) hx hb dX0_canBe_9 (by decide) ?_
    exact W.zret (v := 0) hx hb hr (by decide) (fun t ht hW => ⟨⟨0, (), rfl, by simp [c_1], trivial⟩, hS.F ht⟩) hS.2.2 dX0_canBe_10
  · refine lv_iload_n hx hb dX0_canBe_4 rfl (lv_at hl 0 rfl) ?_
    refine lv_iconst (v := 2) hx hb dX0_canBe_5 (by decide) ?_
    refine lv_icmp_le (tgt := 11) hx hb dX0_canBe_6 (by decide) (fun c_6 => ?_) (fun c_6 => ?_)
    · refine lv_iload_n hx hb dX0_canBe_11 rfl (lv_at hl 1 rfl) ?_
      refine lv_iconst (v := 1) hx hb dX0_canBe_12 (by decide) ?_
      refine lv_icmp_lt (tgt := 35) hx hb dX0_canBe_13 (by decide) (fun c_13 => ?_) (fun c_13 => ?_)
      · refine lv_iconst (v := 0) hx hb dX0_canBe_35 (by decide) ?_
        exact W.zret (v := 0) hx hb hr (by decide) (fun t ht hW => ⟨⟨0, (), rfl, by simp [c_1, c_6, c_13], trivial⟩, hS.F ht⟩) hS.2.2 dX0_canBe_36
      · refine lv_iload_n hx hb dX0_canBe_16 rfl (lv_at hl 1 rfl) ?_
        refine lv_iload_n hx hb dX0_canBe_17 rfl (lv_at hl 0 rfl) ?_
        refine lv_iconst (v := 1) hx hb dX0_canBe_18 (by decide) ?_
        refine lv_icmp_ne (tgt := 26) hx hb dX0_canBe_19 (by decide) (fun c_19 => ?_) (fun c_19 => ?_)
        · refine lv_bipush (v := 9) hx hb dX0_canBe_26 (by decide) ?_
          refine lv_icmp_gt (tgt := 35) hx hb dX0_canBe_28 (by decide) (fun c_28 => ?_) (fun c_28 => ?_)
          · refine lv_iconst (v := 0) hx hb dX0_canBe_35 (by decide) ?_
            exact W.zret (v := 0) hx hb hr (by decide) (fun t ht hW => ⟨⟨0, (), rfl, by simp [c_1, c_6, c_13, c_19, c_28], trivial⟩, hS.F ht⟩) hS.2.2 dX0_canBe_36
          · refine lv_iconst (v := 1) hx hb dX0_canBe_31 (by decide) ?_
            refine lv_goto (tgt := 36) hx hb dX0_canBe_32 (by decide) ?_
            exact W.zret (v := 1) hx hb hr (by decide) (fun t ht hW => ⟨⟨1, (), rfl, by simp [c_1, c_6, c_13, c_19, c_28], trivial⟩, hS.F ht⟩) hS.2.2 dX0_canBe_36
        · refine lv_iconst (v := 4) hx hb dX0_canBe_22 (by decide) ?_
          refine lv_goto (tgt := 28) hx hb dX0_canBe_23 (by decide) ?_
          refine lv_icmp_gt (tgt := 35) hx hb dX0_canBe_28 (by decide) (fun c_28 => ?_) (fun c_28 => ?_)
          · refine lv_iconst (v := 0) hx hb dX0_canBe_35 (by decide) ?_
            exact W.zret (v := 0) hx hb hr (by decide) (fun t ht hW => ⟨⟨0, (), rfl, by simp [c_1, c_6, c_13, c_19, c_28], trivial⟩, hS.F ht⟩) hS.2.2 dX0_canBe_36
          · refine lv_iconst (v := 1) hx hb dX0_canBe_31 (by decide) ?_
            refine lv_goto (tgt := 36) hx hb dX0_canBe_32 (by decide) ?_
            exact W.zret (v := 1) hx hb hr (by decide) (fun t ht hW => ⟨⟨1, (), rfl, by simp [c_1, c_6, c_13, c_19, c_28], trivial⟩, hS.F ht⟩) hS.2.2 dX0_canBe_36
    · refine lv_iconst (v := 0) hx hb dX0_canBe_9 (by decide) ?_
      exact W.zret (v := 0) hx hb hr (by decide) (fun t ht hW => ⟨⟨0, (), rfl, by simp [c_1, c_6], trivial⟩, hS.F ht⟩) hS.2.2 dX0_canBe_10

set_option maxHeartbeats 4000000 in
set_option maxRecDepth 100000 in
theorem c_X0_has (l : Launch) (dC : Nat → ClassId) (dI : Nat → Nat → Nat) (a0 a1 a2 a3 : Nat) (md : Int32) (im : Int32)  : Met l yX0_has wsX0_has ({ frames := 0, cells := 0, slots := 0, locals := 0 }) (va_Pc [.ref a0, .int im] (fun U => va_P (dC, dI) vwCl [(a0, .inr (1, [.ref a1, .ref a2, .ref a3, .int md]))] U.heap ∧ va_K (dC, dI) vwCl [] U)) (va_Qi (fun (r : Int32) (_ : Unit) => r = if im < 0 ∨ md ≤ im then 0 else 1) (fun _ _ => True) (fun _ => False)) 0 0 (fun _ => False) := by
  refine Met.ofW (cc := cX0_has) (maxL := 2) (ret := (some .boolean)) (by decide) rfl ?_
  intro p e s m args below meth c s₁ B hml hv
  obtain ⟨rfl, hP, hK⟩ := hv
  have hx := B.exec
  have hb := B.bytes
  have hr := B.returns
  have hts := atoms_spec (ws := wsX0_has) B.pre
  have hown : s.vm.findClass RX0 = some m.cls := findClass_of_methodNamed B.named
  have hlocks := B.notSynchronized
  have hS : va_S (fun _ => False) s.heap s.heap [] := va_S.rf
  have hl := lv_entry ([.ref a0, .int im]) (n := 2) (Nat.le_of_ble_eq_true rfl)
  rw [lg_entry_eq]
  generalize (lg_sl ([.ref a0, .int im]) ++ List.replicate (2 - (lg_sl ([.ref a0, .int im])).length) Slot.unset).toArray = ls at hl ⊢
  have hl : lv_has ls 2 [(0, .ref a0), (1, .int im)] := hl
  refine lv_iload_n hx hb dX0_has_0 rfl (lv_at hl 1 rfl) ?_
  refine lv_if_lt (tgt := 16) hx hb dX0_has_1 (by decide) (fun c_1 => ?_) (fun c_1 => ?_)
  · refine lv_iconst (v := 0) hx hb dX0_has_16 (by decide) ?_
    exact W.zret (v := 0) hx hb hr (by decide) (fun t ht hW => ⟨⟨0, (), rfl, by simp [c_1], trivial⟩, hS.F ht⟩) hS.2.2 dX0_has_17
  · refine lv_iload_n hx hb dX0_has_4 rfl (lv_at hl 1 rfl) ?_
    refine lv_aload_n hx hb dX0_has_5 rfl (lv_at hl 0 rfl) ?_
    refine va_get (D := (dC, dI)) (ci := 1) (v := .int md) (C := RX0) (T := TX0) (N := 4) hx hb hts (by decide +kernel) hown hK hP 0 rfl rfl 3 (by decide) (hts (.fieldLink RX0 22 "CobolDebugger$Items" "made" "I") (by decide +kernel)) (fun _ h9 => h9) rfl dX0_has_6 ?_
    refine lv_icmp_ge (tgt := 16) hx hb dX0_has_9 (by decide) (fun c_9 => ?_) (fun c_9 => ?_)
    · refine lv_iconst (v := 0) hx hb dX0_has_16 (by decide) ?_
      exact W.zret (v := 0) hx hb hr (by decide) (fun t ht hW => ⟨⟨0, (), rfl, by simp [c_1, c_9], trivial⟩, hS.F ht⟩) hS.2.2 dX0_has_17
    · refine lv_iconst (v := 1) hx hb dX0_has_12 (by decide) ?_
      refine lv_goto (tgt := 17) hx hb dX0_has_13 (by decide) ?_
      exact W.zret (v := 1) hx hb hr (by decide) (fun t ht hW => ⟨⟨1, (), rfl, by simp [c_1, c_9], trivial⟩, hS.F ht⟩) hS.2.2 dX0_has_17

set_option maxHeartbeats 4000000 in
set_option maxRecDepth 100000 in
theorem c_X0_isConstant (l : Launch) (dC : Nat → ClassId) (dI : Nat → Nat → Nat) (a0 a1 a2 a3 : Nat) (ka1 : ClassId) (us : Nat → Int32) (md : Int32) (im : Int32) (him : vp_in im 30) : Met l yX0_isConstant wsX0_isConstant ({ frames := 0, cells := 0, slots := 0, locals := 0 }) (va_Pc [.ref a0, .int im] (fun U => va_P (dC, dI) vwCl [(a0, .inr (1, [.ref a1, .ref a2, .ref a3, .int md])), (a1, .inl (ka1, 30, .inl us))] U.heap ∧ va_K (dC, dI) vwCl [(ka1, .int)] U)) (va_Qi (fun (r : Int32) (_ : Unit) => r = if us im.toNatClampNeg = 2 then 1 else 0) (fun _ _ => True) (fun _ => False)) 0 0 (fun _ => False) := by
  refine Met.ofW (cc := cX0_isConstant) (maxL := 2) (ret := (some .boolean)) (by decide) rfl ?_
  intro p e s m args below meth c s₁ B hml hv
  obtain ⟨rfl, hP, hK⟩ := hv
  have hx := B.exec
  have hb := B.bytes
  have hr := B.returns
  have hts := atoms_spec (ws := wsX0_isConstant) B.pre
  have hown : s.vm.findClass RX0 = some m.cls := findClass_of_methodNamed B.named
  have hlocks := B.notSynchronized
  have hS : va_S (fun _ => False) s.heap s.heap [] := va_S.rf
  have hl := lv_entry ([.ref a0, .int im]) (n := 2) (Nat.le_of_ble_eq_true rfl)
  rw [lg_entry_eq]
  generalize (lg_sl ([.ref a0, .int im]) ++ List.replicate (2 - (lg_sl ([.ref a0, .int im])).length) Slot.unset).toArray = ls at hl ⊢
  have hl : lv_has ls 2 [(0, .ref a0), (1, .int im)] := hl
  refine lv_aload_n hx hb dX0_isConstant_0 rfl (lv_at hl 0 rfl) ?_
  refine va_get (D := (dC, dI)) (ci := 1) (v := .ref a1) (C := RX0) (T := TX0) (N := 4) hx hb hts (by decide +kernel) hown hK hP 0 rfl rfl 0 (by decide) (hts (.fieldLink RX0 11 "CobolDebugger$Items" "usages" "[I") (by decide +kernel)) (fun _ h9 => h9) rfl dX0_isConstant_1 ?_
  refine lv_iload_n hx hb dX0_isConstant_4 rfl (lv_at hl 1 rfl) ?_
  refine va_iald hx hb hK hP 1 0 rfl rfl (i := im) him dX0_isConstant_5 ?_
  refine lv_iconst (v := 2) hx hb dX0_isConstant_6 (by decide) ?_
  refine lv_icmp_ne (tgt := 14) hx hb dX0_isConstant_7 (by decide) (fun c_7 => ?_) (fun c_7 => ?_)
  · refine lv_iconst (v := 0) hx hb dX0_isConstant_14 (by decide) ?_
    exact W.zret (v := 0) hx hb hr (by decide) (fun t ht hW => ⟨⟨0, (), rfl, by simp [c_7], trivial⟩, hS.F ht⟩) hS.2.2 dX0_isConstant_15
  · refine lv_iconst (v := 1) hx hb dX0_isConstant_10 (by decide) ?_
    refine lv_goto (tgt := 15) hx hb dX0_isConstant_11 (by decide) ?_
    exact W.zret (v := 1) hx hb hr (by decide) (fun t ht hW => ⟨⟨1, (), rfl, by simp [c_7], trivial⟩, hS.F ht⟩) hS.2.2 dX0_isConstant_15

set_option maxHeartbeats 4000000 in
set_option maxRecDepth 100000 in
theorem c_X4_count (l : Launch) (dC : Nat → ClassId) (dI : Nat → Nat → Nat) (h0 h1 h2 h3 h4 h5 h6 h7 a0 b0 p0 k0 : Nat) (kh7 : ClassId) (rn : Nat → Int32) (sn sd ft : Int32) (pa : Int32)  : Met l yX4_count wsX4_count ({ frames := 1, cells := 0, slots := 0, locals := 20 }) (va_Pc [.ref h0, .int pa] (fun U => va_P (dC, dI) vwCl [(h0, .inr (5, [.ref h1, .ref h2, .ref h3, .ref h4, .int sn, .ref h5, .ref h6, .ref h7, .ref a0, .ref b0, .ref p0, .ref k0, .int sd, .int ft])), (h7, .inl (kh7, 20, .inl rn))] U.heap ∧ va_K (dC, dI) vwCl [(kh7, .int)] U)) (va_Qi (fun (r : Int32) (_ : Unit) => r = if pa < 0 ∨ 20 ≤ pa then (-4) else rn pa.toNatClampNeg) (fun _ _ => True) (fun _ => False)) 0 0 (fun _ => False) := by
  refine Met.ofW (cc := cX4_count) (maxL := 2) (ret := (some .int)) (by decide) rfl ?_
  intro p e s m args below meth c s₁ B hml hv
  obtain ⟨rfl, hP, hK⟩ := hv
  have hx := B.exec
  have hb := B.bytes
  have hr := B.returns
  have hts := atoms_spec (ws := wsX4_count) B.pre
  have hown : s.vm.findClass RX4 = some m.cls := findClass_of_methodNamed B.named
  have hlocks := B.notSynchronized
  have hS : va_S (fun _ => False) s.heap s.heap [] := va_S.rf
  have hl := lv_entry ([.ref h0, .int pa]) (n := 2) (Nat.le_of_ble_eq_true rfl)
  rw [lg_entry_eq]
  generalize (lg_sl ([.ref h0, .int pa]) ++ List.replicate (2 - (lg_sl ([.ref h0, .int pa])).length) Slot.unset).toArray = ls at hl ⊢
  have hl : lv_has ls 2 [(0, .ref h0), (1, .int pa)] := hl
  refine lv_iload_n hx hb dX4_count_0 rfl (lv_at hl 1 rfl) ?_
  have hPc := hP.sub (ws' := []) [] rfl
  have hKc := hK.sub (tys' := []) [] rfl
  refine va_calli (va_runS (As := [.int pa]) (rest := []) ⟨hx, hb, hml, hown, hts⟩ (c_X4_isParagraph l dC dI pa) (va_cwS 1 hts gX4_count_X4_isParagraph rfl rfl rfl (by decide +kernel) ⟨Nat.le_of_ble_eq_true rfl, Nat.le_of_ble_eq_true rfl⟩) ⟨fun a U g mk q => by obtain ⟨q0, qP, qK⟩ := q; exact ⟨q0, qP, va_K.moved (u := U) (U := U.calling g mk a) (Vm.Alike.refl U.vm) qK⟩, fun U hU hW => ⟨rfl, by rw [hU]; exact hPc, va_K.moved hW.alike hKc⟩⟩ rfl rfl hl.1 rfl (lv_room (Nat.le_of_ble_eq_true rfl)) dX4_count_1 ⟨Nat.zero_le _, Nat.zero_le _⟩) hS (fun q _ h => h.elim) (fun q h => h.elim) (fun r_1 u t H1 locs ht hvm w_1 hB hz1 hk1 hS => ?_)
  try dsimp only at w_1
  have hP := rd_keep hP hk1
  clear hB hk1 hz1 ht hvm u t
  generalize H1 = H at hP hS ⊢
  have w_1 := z01 w_1
  refine lv_if_eq (tgt := 16) hx hb dX4_count_4 (by decide) (fun c_4 => ?_) (fun c_4 => ?_)
  · refine lv_bipush (v := (-4)) hx hb dX4_count_16 (by decide) ?_
    exact W.iret (v := (-4)) hx hb hr (fun t ht hW => ⟨⟨(-4), (), rfl, by rw [if_pos (w_1.mp c_4)], trivial⟩, hS.F ht⟩) hS.2.2 dX4_count_18
  · refine lv_aload_n hx hb dX4_count_7 rfl (lv_at hl 0 rfl) ?_
    refine va_get (D := (dC, dI)) (ci := 5) (v := .ref h7) (C := RX4) (T := TX4) (N := 14) hx hb hts (by decide +kernel) hown hK hP 0 rfl rfl 7 (by decide) (hts (.fieldLink RX4 29 "CobolDebugger" "runs" "[I") (by decide +kernel)) (fun _ h9 => h9) rfl dX4_count_8 ?_
    refine lv_iload_n hx hb dX4_count_11 rfl (lv_at hl 1 rfl) ?_
    refine va_iald hx hb hK hP 1 0 rfl rfl (i := pa) (ix_k 20 (by decide) (fun h => c_4 (w_1.mpr (Or.inl h))) (fun h => c_4 (w_1.mpr (Or.inr h)))) dX4_count_12 ?_
    refine lv_goto (tgt := 18) hx hb dX4_count_13 (by decide) ?_
    exact W.iret (v := rn pa.toNatClampNeg) hx hb hr (fun t ht hW => ⟨⟨(rn pa.toNatClampNeg), (), rfl, by rw [if_neg (fun h => c_4 (w_1.mpr h))], trivial⟩, hS.F ht⟩) hS.2.2 dX4_count_18

set_option maxHeartbeats 4000000 in
set_option maxRecDepth 100000 in
theorem c_X2_performer (l : Launch) (dC : Nat → ClassId) (dI : Nat → Nat → Nat) (p0 p1 p2 p3 p4 : Nat) (kp1 : ClassId) (pf : Nat → Int32) (op nl : Int32) (ix : Int32) (hop : op.toInt ≤ 20) : Met l yX2_performer wsX2_performer ({ frames := 0, cells := 0, slots := 0, locals := 0 }) (va_Pc [.ref p0, .int ix] (fun U => va_P (dC, dI) vwCl [(p0, .inr (3, [.ref p1, .ref p2, .int op, .ref p3, .ref p4, .int nl])), (p1, .inl (kp1, 20, .inl pf))] U.heap ∧ va_K (dC, dI) vwCl [(kp1, .int)] U)) (va_Qi (fun (r : Int32) (_ : Unit) => ix < 0 ∨ op ≤ ix → r = 0) (fun _ _ => True) (fun _ => False)) 0 0 (fun _ => False) := by
  refine Met.ofW (cc := cX2_performer) (maxL := 2) (ret := (some .int)) (by decide) rfl ?_
  intro p e s m args below meth c s₁ B hml hv
  obtain ⟨rfl, hP, hK⟩ := hv
  have hx := B.exec
  have hb := B.bytes
  have hr := B.returns
  have hts := atoms_spec (ws := wsX2_performer) B.pre
  have hown : s.vm.findClass RX2 = some m.cls := findClass_of_methodNamed B.named
  have hlocks := B.notSynchronized
  have hS : va_S (fun _ => False) s.heap s.heap [] := va_S.rf
  have hl := lv_entry ([.ref p0, .int ix]) (n := 2) (Nat.le_of_ble_eq_true rfl)
  rw [lg_entry_eq]
  generalize (lg_sl ([.ref p0, .int ix]) ++ List.replicate (2 - (lg_sl ([.ref p0, .int ix])).length) Slot.unset).toArray = ls at hl ⊢
  have hl : lv_has ls 2 [(0, .ref p0), (1, .int ix)] := hl
  refine lv_iload_n hx hb dX2_performer_0 rfl (lv_at hl 1 rfl) ?_
  refine lv_if_lt (tgt := 28) hx hb dX2_performer_1 (by decide) (fun c_1 => ?_) (fun c_1 => ?_)
  · refine lv_iconst (v := 0) hx hb dX2_performer_28 (by decide) ?_
    exact W.iret (v := 0) hx hb hr (fun t ht hW => ⟨⟨0, (), rfl, fun _ => rfl, trivial⟩, hS.F ht⟩) hS.2.2 dX2_performer_29
  · refine lv_iload_n hx hb dX2_performer_4 rfl (lv_at hl 1 rfl) ?_
    refine lv_aload_n hx hb dX2_performer_5 rfl (lv_at hl 0 rfl) ?_
    refine va_get (D := (dC, dI)) (ci := 3) (v := .int op) (C := RX2) (T := TX2) (N := 6) hx hb hts (by decide +kernel) hown hK hP 0 rfl rfl 2 (by decide) (hts (.fieldLink RX2 24 "CobolDebugger$Performings" "open" "I") (by decide +kernel)) (fun _ h9 => h9) rfl dX2_performer_6 ?_
    refine lv_icmp_ge (tgt := 28) hx hb dX2_performer_9 (by decide) (fun c_9 => ?_) (fun c_9 => ?_)
    · refine lv_iconst (v := 0) hx hb dX2_performer_28 (by decide) ?_
      exact W.iret (v := 0) hx hb hr (fun t ht hW => ⟨⟨0, (), rfl, fun _ => rfl, trivial⟩, hS.F ht⟩) hS.2.2 dX2_performer_29
    · refine lv_aload_n hx hb dX2_performer_12 rfl (lv_at hl 0 rfl) ?_
      refine va_get (D := (dC, dI)) (ci := 3) (v := .ref p1) (C := RX2) (T := TX2) (N := 6) hx hb hts (by decide +kernel) hown hK hP 0 rfl rfl 0 (by decide) (hts (.fieldLink RX2 11 "CobolDebugger$Performings" "performers" "[I") (by decide +kernel)) (fun _ h9 => h9) rfl dX2_performer_13 ?_
      refine lv_aload_n hx hb dX2_performer_16 rfl (lv_at hl 0 rfl) ?_
      refine va_get (D := (dC, dI)) (ci := 3) (v := .int op) (C := RX2) (T := TX2) (N := 6) hx hb hts (by decide +kernel) hown hK hP 0 rfl rfl 2 (by decide) (hts (.fieldLink RX2 24 "CobolDebugger$Performings" "open" "I") (by decide +kernel)) (fun _ h9 => h9) rfl dX2_performer_17 ?_
      refine lv_iconst (v := 1) hx hb dX2_performer_20 (by decide) ?_
      refine lv_isub hx hb dX2_performer_21 ?_
      refine lv_iload_n hx hb dX2_performer_22 rfl (lv_at hl 1 rfl) ?_
      refine lv_isub hx hb dX2_performer_23 ?_
      refine va_iald hx hb hK hP 1 0 rfl rfl (i := (op - 1) - ix) (ix_pf c_1 c_9 hop) dX2_performer_24 ?_
      refine lv_goto (tgt := 29) hx hb dX2_performer_25 (by decide) ?_
      exact W.iret (v := pf ((op - 1) - ix).toNatClampNeg) hx hb hr (fun t ht hW => ⟨⟨(pf ((op - 1) - ix).toNatClampNeg), (), rfl, fun h => absurd h (not_or.mpr ⟨c_1, c_9⟩), trivial⟩, hS.F ht⟩) hS.2.2 dX2_performer_29

set_option maxHeartbeats 4000000 in
set_option maxRecDepth 100000 in
theorem c_X4_performed (l : Launch) (dC : Nat → ClassId) (dI : Nat → Nat → Nat) (h0 h1 h2 h3 h4 h5 h6 h7 a0 b0 p0 k0 p1 p2 p3 p4 : Nat) (kp1 : ClassId) (pf : Nat → Int32) (sn sd ft op nl : Int32) (ix : Int32) (hop : op.toInt ≤ 20) : Met l yX4_performed wsX4_performed ({ frames := 1, cells := 0, slots := 0, locals := 21 }) (va_Pc [.ref h0, .int ix] (fun U => va_P (dC, dI) vwCl [(h0, .inr (5, [.ref h1, .ref h2, .ref h3, .ref h4, .int sn, .ref h5, .ref h6, .ref h7, .ref a0, .ref b0, .ref p0, .ref k0, .int sd, .int ft])), (p0, .inr (3, [.ref p1, .ref p2, .int op, .ref p3, .ref p4, .int nl])), (p1, .inl (kp1, 20, .inl pf))] U.heap ∧ va_K (dC, dI) vwCl [(kp1, .int)] U ∧ nW U)) (va_Qi (fun (r : Int32) (_ : Unit) => ix < 0 ∨ op ≤ ix → r = 0) (fun _ _ => True) (fun _ => False)) 0 0 (fun _ => False) := by
  refine Met.ofW (cc := cX4_performed) (maxL := 2) (ret := (some .int)) (by decide) rfl ?_
  intro p e s m args below meth c s₁ B hml hv
  obtain ⟨rfl, hP, hK, hN⟩ := hv
  have hx := B.exec
  have hb := B.bytes
  have hr := B.returns
  have hts := atoms_spec (ws := wsX4_performed) B.pre
  have hown : s.vm.findClass RX4 = some m.cls := findClass_of_methodNamed B.named
  have hlocks := B.notSynchronized
  have hS : va_S (fun _ => False) s.heap s.heap [] := va_S.rf
  have hl := lv_entry ([.ref h0, .int ix]) (n := 2) (Nat.le_of_ble_eq_true rfl)
  rw [lg_entry_eq]
  generalize (lg_sl ([.ref h0, .int ix]) ++ List.replicate (2 - (lg_sl ([.ref h0, .int ix])).length) Slot.unset).toArray = ls at hl ⊢
  have hl : lv_has ls 2 [(0, .ref h0), (1, .int ix)] := hl
  refine lv_aload_n hx hb dX4_performed_0 rfl (lv_at hl 0 rfl) ?_
  refine va_get (D := (dC, dI)) (ci := 5) (v := .ref p0) (C := RX4) (T := TX4) (N := 14) hx hb hts (by decide +kernel) hown hK hP 0 rfl rfl 10 (by decide) (hts (.fieldLink RX4 49 "CobolDebugger" "performings" "LCobolDebugger$Performings;") (by decide +kernel)) (fun _ h9 => h9) rfl dX4_performed_1 ?_
  refine lv_iload_n hx hb dX4_performed_4 rfl (lv_at hl 1 rfl) ?_
  have hPc := hP.sub (ws' := [(p0, .inr (3, [.ref p1, .ref p2, .int op, .ref p3, .ref p4, .int nl])), (p1, .inl (kp1, 20, .inl pf))]) [1, 2] rfl
  have hKc := hK.sub (tys' := [(kp1, .int)]) [0] rfl
  refine va_calli (va_runVN (C := RX2) (As := [.int ix]) (rest := []) ⟨hx, hb, hml, hown, hts⟩ (c_X2_performer l dC dI p0 p1 p2 p3 p4 kp1 pf op nl ix (hop)) ⟨va_cnB 1 hts gX4_performed_X2_performer_n135 rfl rfl rfl (nwm hN (RX4, 135, yX2_performer, RX4) (by decide +kernel)) (hts (.initialized RX2) (by decide +kernel)) (by decide +kernel) ⟨Nat.le_of_ble_eq_true rfl, Nat.le_of_ble_eq_true rfl⟩, hts (.instanceMethod yX2_performer) (by decide +kernel), hts (.selects RX2 yX2_performer yX2_performer) (by decide +kernel)⟩ ⟨fun a U g mk q => by obtain ⟨q0, qP, qK⟩ := q; exact ⟨q0, qP, va_K.moved (u := U) (U := U.calling g mk a) (Vm.Alike.refl U.vm) qK⟩, va_recv hKc hPc (ci := 3) (q0 := 0) rfl rfl, fun U hU hW => ⟨rfl, by rw [hU]; exact hPc, va_K.moved hW.alike hKc⟩⟩ rfl rfl hl.1 rfl (lv_room (Nat.le_of_ble_eq_true rfl)) dX4_performed_5 ⟨Nat.zero_le _, Nat.zero_le _⟩) hS (fun q _ h => h.elim) (fun q h => h.elim) (fun r_5 u t H1 locs ht hvm w_5 hB hz1 hk1 hS => ?_)
  try dsimp only at w_5
  have hP := rd_keep hP hk1
  clear hB hk1 hz1 ht hvm u t
  generalize H1 = H at hP hS ⊢
  exact W.iret (v := r_5) hx hb hr (fun t ht hW => ⟨⟨r_5, (), rfl, w_5, trivial⟩, hS.F ht⟩) hS.2.2 dX4_performed_8

set_option maxHeartbeats 4000000 in
set_option maxRecDepth 100000 in
theorem c_X3_leastForTask (l : Launch) (dC : Nat → ClassId) (dI : Nat → Nat → Nat) (b0 b1 b2 b3 : Nat) (kb1 kb2 kb3 : ClassId) (kd of cd : Nat → Int32) (n : Nat) (co : Int32) (te : Int32) (hn20 : n ≤ 20) : Met l yX3_leastForTask wsX3_leastForTask ({ frames := 0, cells := 0, slots := 0, locals := 0 }) (va_Pc [.ref b0, .int co, .int te] (fun U => va_P (dC, dI) vwCl [(b0, .inr (4, [.ref b1, .ref b2, .ref b3, .int (nI n)])), (b1, .inl (kb1, 20, .inl kd)), (b2, .inl (kb2, 20, .inl of)), (b3, .inl (kb3, 20, .inl cd))] U.heap ∧ va_K (dC, dI) vwCl [(kb1, .int), (kb2, .int), (kb3, .int)] U)) (va_Qi (fun (r : Int32) (_ : Unit) => ltS (fun j => kd j = 4 ∧ of j = co ∧ cd j = te) n r) (fun _ _ => True) (fun _ => False)) 0 0 (fun _ => False) := by
  refine Met.ofW (cc := cX3_leastForTask) (maxL := 4) (ret := (some .int)) (by decide) rfl ?_
  intro p e s m args below meth c s₁ B hml hv
  obtain ⟨rfl, hP, hK⟩ := hv
  have hx := B.exec
  have hb := B.bytes
  have hr := B.returns
  have hts := atoms_spec (ws := wsX3_leastForTask) B.pre
  have hown : s.vm.findClass RX3 = some m.cls := findClass_of_methodNamed B.named
  have hlocks := B.notSynchronized
  have hS : va_S (fun _ => False) s.heap s.heap [] := va_S.rf
  have hl := lv_entry ([.ref b0, .int co, .int te]) (n := 4) (Nat.le_of_ble_eq_true rfl)
  rw [lg_entry_eq]
  generalize (lg_sl ([.ref b0, .int co, .int te]) ++ List.replicate (4 - (lg_sl ([.ref b0, .int co, .int te])).length) Slot.unset).toArray = ls at hl ⊢
  have hl : lv_has ls 4 [(0, .ref b0), (1, .int co), (2, .int te)] := hl
  refine lv_iconst (v := 0) hx hb dX3_leastForTask_0 (by decide) ?_
  refine lv_istore_n (lv' := [(3, .int 0), (0, .ref b0), (1, .int co), (2, .int te)]) hx hb dX3_leastForTask_1 rfl hl (by decide) rfl (fun ls hl => ?_)
  refine wl2 (μ := fun (i : Int32) (k : Nat) => n - k) (I := fun (i : Int32) (k : Nat) (ls : Array Slot) (H : Heap) (locs : List Loc) => lv_has ls 4 [(0, .ref b0), (1, .int co), (2, .int te), (3, .int i)] ∧ va_P (dC, dI) vwCl [(b0, .inr (4, [.ref b1, .ref b2, .ref b3, .int (nI n)])), (b1, .inl (kb1, 20, .inl kd)), (b2, .inl (kb2, 20, .inl of)), (b3, .inl (kb3, 20, .inl cd))] H ∧ va_S (fun _ => False) s.heap H locs ∧ (i = nI k) ∧ (∀ j, j < k → ¬ (kd j = 4 ∧ of j = co ∧ cd j = te)) ∧ (k ≤ n)) (fun i k ls H locs hI ih => ?_) 0 0 ls _ _ ⟨lv_sub hl [1, 2, 3, 0] rfl, hP, hS, rfl, fun j h => absurd h (Nat.not_lt_zero _), Nat.zero_le _⟩
  obtain ⟨hl, hP, hS, ei, hnm, hni⟩ := hI
  refine lv_iload_n hx hb dX3_leastForTask_2 rfl (lv_at hl 3 rfl) ?_
  refine lv_aload_n hx hb dX3_leastForTask_3 rfl (lv_at hl 0 rfl) ?_
  refine va_get (D := (dC, dI)) (ci := 4) (v := .int (nI n)) (C := RX3) (T := TX3) (N := 4) hx hb hts (by decide +kernel) hown hK hP 0 rfl rfl 3 (by decide) (hts (.fieldLink RX3 21 "CobolDebugger$Stops" "made" "I") (by decide +kernel)) (fun _ h9 => h9) rfl dX3_leastForTask_4 ?_
  refine lv_icmp_ge (tgt := 50) hx hb dX3_leastForTask_7 (by decide) (fun c_7 => ?_) (fun c_7 => ?_)
  · refine lv_iconst (v := 0) hx hb dX3_leastForTask_50 (by decide) ?_
    exact W.iret (v := 0) hx hb hr (fun t ht hW => ⟨⟨0, (), rfl, Or.inl ⟨rfl, fun j hj => hnm j (by rw [ei] at c_7; have := (nI_leI (by omega) (by omega)).mp c_7; omega)⟩, trivial⟩, hS.F ht⟩) hS.2.2 dX3_leastForTask_51
  · have hkn : k < n := by rw [ei] at c_7; exact Nat.lt_of_not_le (fun h => c_7 (nI_le h (by omega)))
    have hin : vp_in i 20 := by rw [ei]; exact vp_in_nI (by omega) (by decide)
    have ecl : i.toNatClampNeg = k := by rw [ei]; exact nI_clamp (by omega)
    refine lv_aload_n hx hb dX3_leastForTask_10 rfl (lv_at hl 0 rfl) ?_
    refine va_get (D := (dC, dI)) (ci := 4) (v := .ref b1) (C := RX3) (T := TX3) (N := 4) hx hb hts (by decide +kernel) hown hK hP 0 rfl rfl 0 (by decide) (hts (.fieldLink RX3 11 "CobolDebugger$Stops" "kinds" "[I") (by decide +kernel)) (fun _ h9 => h9) rfl dX3_leastForTask_11 ?_
    refine lv_iload_n hx hb dX3_leastForTask_14 rfl (lv_at hl 3 rfl) ?_
    refine va_iald hx hb hK hP 1 0 rfl rfl (i := i) hin dX3_leastForTask_15 ?_
    refine lv_iconst (v := 4) hx hb dX3_leastForTask_16 (by decide) ?_
    refine lv_icmp_ne (tgt := 44) hx hb dX3_leastForTask_17 (by decide) (fun c_17 => ?_) (fun c_17 => ?_)
    · obtain ⟨i_1, e_i_1⟩ : ∃ y : Int32, y = i + 1 := ⟨_, rfl⟩
      refine lv_iinc (v := i_1) (lv' := [(3, .int i_1), (0, .ref b0), (1, .int co), (2, .int te)]) hx hb dX3_leastForTask_44 hl (k := 3) rfl (by rw [e_i_1]; rfl) (by decide) rfl (fun ls hl => ?_)
      refine lv_goto (tgt := 2) hx hb dX3_leastForTask_47 (by decide) ?_
      exact ih i_1 (k + 1) _ _ _ ⟨lv_sub hl [1, 2, 3, 0] rfl, hP, hS, by rw [e_i_1, ei]; exact nI_1 k, lt_s hnm (fun h => c_17 (by rw [ecl]; exact h.1)), Nat.succ_le_of_lt hkn⟩ (by omega)
    · refine lv_aload_n hx hb dX3_leastForTask_20 rfl (lv_at hl 0 rfl) ?_
      refine va_get (D := (dC, dI)) (ci := 4) (v := .ref b2) (C := RX3) (T := TX3) (N := 4) hx hb hts (by decide +kernel) hown hK hP 0 rfl rfl 1 (by decide) (hts (.fieldLink RX3 15 "CobolDebugger$Stops" "ofs" "[I") (by decide +kernel)) (fun _ h9 => h9) rfl dX3_leastForTask_21 ?_
      refine lv_iload_n hx hb dX3_leastForTask_24 rfl (lv_at hl 3 rfl) ?_
      refine va_iald hx hb hK hP 2 1 rfl rfl (i := i) hin dX3_leastForTask_25 ?_
      refine lv_iload_n hx hb dX3_leastForTask_26 rfl (lv_at hl 1 rfl) ?_
      refine lv_icmp_ne (tgt := 44) hx hb dX3_leastForTask_27 (by decide) (fun c_27 => ?_) (fun c_27 => ?_)
      · obtain ⟨i_2, e_i_2⟩ : ∃ y : Int32, y = i + 1 := ⟨_, rfl⟩
        refine lv_iinc (v := i_2) (lv' := [(3, .int i_2), (0, .ref b0), (1, .int co), (2, .int te)]) hx hb dX3_leastForTask_44 hl (k := 3) rfl (by rw [e_i_2]; rfl) (by decide) rfl (fun ls hl => ?_)
        refine lv_goto (tgt := 2) hx hb dX3_leastForTask_47 (by decide) ?_
        exact ih i_2 (k + 1) _ _ _ ⟨lv_sub hl [1, 2, 3, 0] rfl, hP, hS, by rw [e_i_2, ei]; exact nI_1 k, lt_s hnm (fun h => c_27 (by rw [ecl]; exact h.2.1)), Nat.succ_le_of_lt hkn⟩ (by omega)
      · refine lv_aload_n hx hb dX3_leastForTask_30 rfl (lv_at hl 0 rfl) ?_
        refine va_get (D := (dC, dI)) (ci := 4) (v := .ref b3) (C := RX3) (T := TX3) (N := 4) hx hb hts (by decide +kernel) hown hK hP 0 rfl rfl 2 (by decide) (hts (.fieldLink RX3 18 "CobolDebugger$Stops" "conditions" "[I") (by decide +kernel)) (fun _ h9 => h9) rfl dX3_leastForTask_31 ?_
        refine lv_iload_n hx hb dX3_leastForTask_34 rfl (lv_at hl 3 rfl) ?_
        refine va_iald hx hb hK hP 3 2 rfl rfl (i := i) hin dX3_leastForTask_35 ?_
        refine lv_iload_n hx hb dX3_leastForTask_36 rfl (lv_at hl 2 rfl) ?_
        refine lv_icmp_ne (tgt := 44) hx hb dX3_leastForTask_37 (by decide) (fun c_37 => ?_) (fun c_37 => ?_)
        · obtain ⟨i_3, e_i_3⟩ : ∃ y : Int32, y = i + 1 := ⟨_, rfl⟩
          refine lv_iinc (v := i_3) (lv' := [(3, .int i_3), (0, .ref b0), (1, .int co), (2, .int te)]) hx hb dX3_leastForTask_44 hl (k := 3) rfl (by rw [e_i_3]; rfl) (by decide) rfl (fun ls hl => ?_)
          refine lv_goto (tgt := 2) hx hb dX3_leastForTask_47 (by decide) ?_
          exact ih i_3 (k + 1) _ _ _ ⟨lv_sub hl [1, 2, 3, 0] rfl, hP, hS, by rw [e_i_3, ei]; exact nI_1 k, lt_s hnm (fun h => c_37 (by rw [ecl]; exact h.2.2)), Nat.succ_le_of_lt hkn⟩ (by omega)
        · refine lv_iload_n hx hb dX3_leastForTask_40 rfl (lv_at hl 3 rfl) ?_
          refine lv_iconst (v := 1) hx hb dX3_leastForTask_41 (by decide) ?_
          refine lv_iadd hx hb dX3_leastForTask_42 ?_
          exact W.iret (v := i + 1) hx hb hr (fun t ht hW => ⟨⟨(i + 1), (), rfl, Or.inr ⟨k, hkn, by rw [ei]; exact nI_1 k, by show kd k = 4 ∧ of k = co ∧ cd k = te; rw [← ecl]; exact ⟨c_17, c_27, c_37⟩, hnm⟩, trivial⟩, hS.F ht⟩) hS.2.2 dX3_leastForTask_43

set_option maxHeartbeats 4000000 in
set_option maxRecDepth 100000 in
theorem c_X4_caught (l : Launch) (dC : Nat → ClassId) (dI : Nat → Nat → Nat) (h0 h1 h2 h3 h4 h5 h6 h7 a0 b0 p0 k0 b1 b2 b3 : Nat) (kb1 kb2 kb3 : ClassId) (kd of cd : Nat → Int32) (sn sd ft : Int32) (n : Nat) (co : Int32) (te : Int32) (hn20 : n ≤ 20) : Met l yX4_caught wsX4_caught ({ frames := 1, cells := 0, slots := 0, locals := 23 }) (va_Pc [.ref h0, .int co, .int te] (fun U => va_P (dC, dI) vwCl [(h0, .inr (5, [.ref h1, .ref h2, .ref h3, .ref h4, .int sn, .ref h5, .ref h6, .ref h7, .ref a0, .ref b0, .ref p0, .ref k0, .int sd, .int ft])), (b0, .inr (4, [.ref b1, .ref b2, .ref b3, .int (nI n)])), (b1, .inl (kb1, 20, .inl kd)), (b2, .inl (kb2, 20, .inl of)), (b3, .inl (kb3, 20, .inl cd))] U.heap ∧ va_K (dC, dI) vwCl [(kb1, .int), (kb2, .int), (kb3, .int)] U ∧ nW U)) (va_Qi (fun (r : Int32) (_ : Unit) => ltS (fun j => kd j = 4 ∧ of j = co ∧ cd j = te) n r) (fun _ _ => True) (fun _ => False)) 0 0 (fun _ => False) := by
  refine Met.ofW (cc := cX4_caught) (maxL := 3) (ret := (some .int)) (by decide) rfl ?_
  intro p e s m args below meth c s₁ B hml hv
  obtain ⟨rfl, hP, hK, hN⟩ := hv
  have hx := B.exec
  have hb := B.bytes
  have hr := B.returns
  have hts := atoms_spec (ws := wsX4_caught) B.pre
  have hown : s.vm.findClass RX4 = some m.cls := findClass_of_methodNamed B.named
  have hlocks := B.notSynchronized
  have hS : va_S (fun _ => False) s.heap s.heap [] := va_S.rf
  have hl := lv_entry ([.ref h0, .int co, .int te]) (n := 3) (Nat.le_of_ble_eq_true rfl)
  rw [lg_entry_eq]
  generalize (lg_sl ([.ref h0, .int co, .int te]) ++ List.replicate (3 - (lg_sl ([.ref h0, .int co, .int te])).length) Slot.unset).toArray = ls at hl ⊢
  have hl : lv_has ls 3 [(0, .ref h0), (1, .int co), (2, .int te)] := hl
  refine lv_aload_n hx hb dX4_caught_0 rfl (lv_at hl 0 rfl) ?_
  refine va_get (D := (dC, dI)) (ci := 5) (v := .ref b0) (C := RX4) (T := TX4) (N := 14) hx hb hts (by decide +kernel) hown hK hP 0 rfl rfl 9 (by decide) (hts (.fieldLink RX4 42 "CobolDebugger" "stops" "LCobolDebugger$Stops;") (by decide +kernel)) (fun _ h9 => h9) rfl dX4_caught_1 ?_
  refine lv_iload_n hx hb dX4_caught_4 rfl (lv_at hl 1 rfl) ?_
  refine lv_iload_n hx hb dX4_caught_5 rfl (lv_at hl 2 rfl) ?_
  have hPc := hP.sub (ws' := [(b0, .inr (4, [.ref b1, .ref b2, .ref b3, .int (nI n)])), (b1, .inl (kb1, 20, .inl kd)), (b2, .inl (kb2, 20, .inl of)), (b3, .inl (kb3, 20, .inl cd))]) [1, 2, 3, 4] rfl
  have hKc := hK.sub (tys' := [(kb1, .int), (kb2, .int), (kb3, .int)]) [0, 1, 2] rfl
  refine va_calli (va_runVN (C := RX3) (As := [.int co, .int te]) (rest := []) ⟨hx, hb, hml, hown, hts⟩ (c_X3_leastForTask l dC dI b0 b1 b2 b3 kb1 kb2 kb3 kd of cd n co te (hn20)) ⟨va_cnB 2 hts gX4_caught_X3_leastForTask_n139 rfl rfl rfl (nwm hN (RX4, 139, yX3_leastForTask, RX4) (by decide +kernel)) (hts (.initialized RX3) (by decide +kernel)) (by decide +kernel) ⟨Nat.le_of_ble_eq_true rfl, Nat.le_of_ble_eq_true rfl⟩, hts (.instanceMethod yX3_leastForTask) (by decide +kernel), hts (.selects RX3 yX3_leastForTask yX3_leastForTask) (by decide +kernel)⟩ ⟨fun a U g mk q => by obtain ⟨q0, qP, qK⟩ := q; exact ⟨q0, qP, va_K.moved (u := U) (U := U.calling g mk a) (Vm.Alike.refl U.vm) qK⟩, va_recv hKc hPc (ci := 4) (q0 := 0) rfl rfl, fun U hU hW => ⟨rfl, by rw [hU]; exact hPc, va_K.moved hW.alike hKc⟩⟩ rfl rfl hl.1 rfl (lv_room (Nat.le_of_ble_eq_true rfl)) dX4_caught_6 ⟨Nat.zero_le _, Nat.zero_le _⟩) hS (fun q _ h => h.elim) (fun q h => h.elim) (fun r_6 u t H1 locs ht hvm w_6 hB hz1 hk1 hS => ?_)
  try dsimp only at w_6
  have hP := rd_keep hP hk1
  clear hB hk1 hz1 ht hvm u t
  generalize H1 = H at hP hS ⊢
  exact W.iret (v := r_6) hx hb hr (fun t ht hW => ⟨⟨r_6, (), rfl, w_6, trivial⟩, hS.F ht⟩) hS.2.2 dX4_caught_9

set_option maxHeartbeats 4000000 in
set_option maxRecDepth 100000 in
theorem c_X4_near (l : Launch) (dC : Nat → ClassId) (dI : Nat → Nat → Nat) (h0 h1 h2 h3 h4 h5 h6 h7 a0 b0 p0 k0 a1 a2 a3 : Nat) (sn sd ft md : Int32) (nm : Int32)  : Met l yX4_near wsX4_near ({ frames := 1, cells := 0, slots := 0, locals := 16 }) (va_Pc [.ref h0, .int nm] (fun U => va_P (dC, dI) vwCl [(h0, .inr (5, [.ref h1, .ref h2, .ref h3, .ref h4, .int sn, .ref h5, .ref h6, .ref h7, .ref a0, .ref b0, .ref p0, .ref k0, .int sd, .int ft])), (a0, .inr (1, [.ref a1, .ref a2, .ref a3, .int md]))] U.heap ∧ va_K (dC, dI) vwCl [] U ∧ nW U)) (va_Qi (fun (r : Int32) (_ : Unit) => r = if md = 0 then (-1) else (if 0 < (if md - 1 < nm then md - 1 else nm) then (if md - 1 < nm then md - 1 else nm) else 0)) (fun _ _ => True) (fun _ => False)) 0 0 (fun _ => False) := by
  refine Met.ofW (cc := cX4_near) (maxL := 2) (ret := (some .int)) (by decide) rfl ?_
  intro p e s m args below meth c s₁ B hml hv
  obtain ⟨rfl, hP, hK, hN⟩ := hv
  have hx := B.exec
  have hb := B.bytes
  have hr := B.returns
  have hts := atoms_spec (ws := wsX4_near) B.pre
  have hown : s.vm.findClass RX4 = some m.cls := findClass_of_methodNamed B.named
  have hlocks := B.notSynchronized
  have hS : va_S (fun _ => False) s.heap s.heap [] := va_S.rf
  have hl := lv_entry ([.ref h0, .int nm]) (n := 2) (Nat.le_of_ble_eq_true rfl)
  rw [lg_entry_eq]
  generalize (lg_sl ([.ref h0, .int nm]) ++ List.replicate (2 - (lg_sl ([.ref h0, .int nm])).length) Slot.unset).toArray = ls at hl ⊢
  have hl : lv_has ls 2 [(0, .ref h0), (1, .int nm)] := hl
  refine lv_aload_n hx hb dX4_near_0 rfl (lv_at hl 0 rfl) ?_
  refine va_get (D := (dC, dI)) (ci := 5) (v := .ref a0) (C := RX4) (T := TX4) (N := 14) hx hb hts (by decide +kernel) hown hK hP 0 rfl rfl 8 (by decide) (hts (.fieldLink RX4 35 "CobolDebugger" "items" "LCobolDebugger$Items;") (by decide +kernel)) (fun _ h9 => h9) rfl dX4_near_1 ?_
  refine va_getN (D := (dC, dI)) (ci := 1) (v := .int md) (C := RX0) (T := TX0) (N := 4) hx hb hts (by decide +kernel) hown hK hP 1 rfl rfl 3 (by decide) (va_Nw.use (w := .fieldLinkNest RX4 83 "CobolDebugger$Items" "made" "I" RX4) rfl (nwf hN (RX4, 83, "CobolDebugger$Items", "made", "I", RX4) (by decide +kernel))) (fun _ h9 => h9) rfl dX4_near_4 ?_
  refine lv_if_ne (tgt := 12) hx hb dX4_near_7 (by decide) (fun c_7 => ?_) (fun c_7 => ?_)
  · refine lv_iconst (v := 0) hx hb dX4_near_12 (by decide) ?_
    refine lv_iload_n hx hb dX4_near_13 rfl (lv_at hl 1 rfl) ?_
    refine lv_aload_n hx hb dX4_near_14 rfl (lv_at hl 0 rfl) ?_
    refine va_get (D := (dC, dI)) (ci := 5) (v := .ref a0) (C := RX4) (T := TX4) (N := 14) hx hb hts (by decide +kernel) hown hK hP 0 rfl rfl 8 (by decide) (hts (.fieldLink RX4 35 "CobolDebugger" "items" "LCobolDebugger$Items;") (by decide +kernel)) (fun _ h9 => h9) rfl dX4_near_15 ?_
    refine va_getN (D := (dC, dI)) (ci := 1) (v := .int md) (C := RX0) (T := TX0) (N := 4) hx hb hts (by decide +kernel) hown hK hP 1 rfl rfl 3 (by decide) (va_Nw.use (w := .fieldLinkNest RX4 83 "CobolDebugger$Items" "made" "I" RX4) rfl (nwf hN (RX4, 83, "CobolDebugger$Items", "made", "I", RX4) (by decide +kernel))) (fun _ h9 => h9) rfl dX4_near_18 ?_
    refine lv_iconst (v := 1) hx hb dX4_near_21 (by decide) ?_
    refine lv_isub hx hb dX4_near_22 ?_
    refine va_mmin hx hb (by rw [hml]; exact hl.1.symm) hown (hts (.methodLink RX4 142 Lib.Math.min.name) (by decide +kernel)) (hts (.static Lib.Math.min.name) (by decide +kernel)) (hts (.initialized "java/lang/Math") (by decide +kernel)) (hts (.code Lib.Math.min.name Lib.Math.min.code 2 (some .int)) (by decide +kernel)) (Nat.le_of_ble_eq_true rfl) (Nat.le_of_ble_eq_true rfl) (Nat.le_of_ble_eq_true rfl) (Nat.le_of_ble_eq_true rfl) dX4_near_23 ?_
    refine va_mmax hx hb (by rw [hml]; exact hl.1.symm) hown (hts (.methodLink RX4 147 Lib.Math.max.name) (by decide +kernel)) (hts (.static Lib.Math.max.name) (by decide +kernel)) (hts (.initialized "java/lang/Math") (by decide +kernel)) (hts (.code Lib.Math.max.name Lib.Math.max.code 2 (some .int)) (by decide +kernel)) (Nat.le_of_ble_eq_true rfl) (Nat.le_of_ble_eq_true rfl) (Nat.le_of_ble_eq_true rfl) (Nat.le_of_ble_eq_true rfl) dX4_near_26 ?_
    exact W.iret (v := if 0 < if md - 1 < nm then md - 1 else nm then if md - 1 < nm then md - 1 else nm else 0) hx hb hr (fun t ht hW => ⟨⟨(if 0 < if md - 1 < nm then md - 1 else nm then if md - 1 < nm then md - 1 else nm else 0), (), rfl, (if_neg c_7).symm, trivial⟩, hS.F ht⟩) hS.2.2 dX4_near_29
  · refine lv_iconst (v := (-1)) hx hb dX4_near_10 (by decide) ?_
    exact W.iret (v := (-1)) hx hb hr (fun t ht hW => ⟨⟨(-1), (), rfl, (if_pos c_7).symm, trivial⟩, hS.F ht⟩) hS.2.2 dX4_near_11

set_option maxHeartbeats 4000000 in
set_option maxRecDepth 100000 in
theorem c_X4_told (l : Launch) (dC : Nat → ClassId) (dI : Nat → Nat → Nat) (h0 h1 h2 h3 h4 h5 h6 h7 a0 b0 p0 k0 a1 a2 a3 k1 k2 k3 k4 p1 p2 p3 p4 b1 b2 b3 : Nat) (sn sd ft md nx nw rw op nl sm : Int32) (wh : Int32)  : Met l yX4_told wsX4_told ({ frames := 0, cells := 0, slots := 0, locals := 0 }) (va_Pc [.ref h0, .int wh] (fun U => va_P (dC, dI) vwCl [(h0, .inr (5, [.ref h1, .ref h2, .ref h3, .ref h4, .int sn, .ref h5, .ref h6, .ref h7, .ref a0, .ref b0, .ref p0, .ref k0, .int sd, .int ft])), (a0, .inr (1, [.ref a1, .ref a2, .ref a3, .int md])), (k0, .inr (2, [.ref k1, .ref k2, .ref k3, .ref k4, .int nx, .int nw, .int rw])), (p0, .inr (3, [.ref p1, .ref p2, .int op, .ref p3, .ref p4, .int nl])), (b0, .inr (4, [.ref b1, .ref b2, .ref b3, .int sm]))] U.heap ∧ va_K (dC, dI) vwCl [] U ∧ nW U)) (va_Qi (fun (r : Int32) (_ : Unit) => (wh.toInt < 0 ∨ 6 < wh.toInt → r = (-1)) ∧ (¬ (wh.toInt < 0 ∨ 6 < wh.toInt) → r = sn ∨ r = md ∨ r = sm ∨ r = sd ∨ r = rw ∨ r = ft ∨ r = op)) (fun _ _ => True) (fun _ => False)) 0 0 (fun _ => False) := by
  refine Met.ofW (cc := cX4_told) (maxL := 2) (ret := (some .int)) (by decide) rfl ?_
  intro p e s m args below meth c s₁ B hml hv
  obtain ⟨rfl, hP, hK, hN⟩ := hv
  have hx := B.exec
  have hb := B.bytes
  have hr := B.returns
  have hts := atoms_spec (ws := wsX4_told) B.pre
  have hown : s.vm.findClass RX4 = some m.cls := findClass_of_methodNamed B.named
  have hlocks := B.notSynchronized
  have hS : va_S (fun _ => False) s.heap s.heap [] := va_S.rf
  have hl := lv_entry ([.ref h0, .int wh]) (n := 2) (Nat.le_of_ble_eq_true rfl)
  rw [lg_entry_eq]
  generalize (lg_sl ([.ref h0, .int wh]) ++ List.replicate (2 - (lg_sl ([.ref h0, .int wh])).length) Slot.unset).toArray = ls at hl ⊢
  have hl : lv_has ls 2 [(0, .ref h0), (1, .int wh)] := hl
  refine lv_iload_n hx hb dX4_told_0 rfl (lv_at hl 1 rfl) ?_
  by_cases hsw : wh.toInt < 0 ∨ 6 < wh.toInt
  · refine lv_tableOut (tgt := 91) hx hb dX4_told_1 hsw (by decide) ?_
    refine lv_iconst (v := (-1)) hx hb dX4_told_91 (by decide) ?_
    exact W.iret (v := (-1)) hx hb hr (fun t ht hW => ⟨⟨(-1), (), rfl, ⟨fun _ => rfl, fun h => absurd hsw h⟩, trivial⟩, hS.F ht⟩) hS.2.2 dX4_told_92
  · rcases (show wh.toInt = 0 ∨ wh.toInt = 1 ∨ wh.toInt = 2 ∨ wh.toInt = 3 ∨ wh.toInt = 4 ∨ wh.toInt = 5 ∨ wh.toInt = 6 by omega) with h_sw | h_sw | h_sw | h_sw | h_sw | h_sw | h_sw
    · refine lv_tableIn (tgt := 44) hx hb dX4_told_1 (by omega) (by omega) (by rw [h_sw]; rfl) (by decide) ?_
      refine lv_aload_n hx hb dX4_told_44 rfl (lv_at hl 0 rfl) ?_
      refine va_get (D := (dC, dI)) (ci := 5) (v := .int sn) (C := RX4) (T := TX4) (N := 14) hx hb hts (by decide +kernel) hown hK hP 0 rfl rfl 4 (by decide) (hts (.fieldLink RX4 64 "CobolDebugger" "statements" "I") (by decide +kernel)) (fun _ h9 => h9) rfl dX4_told_45 ?_
      exact W.iret (v := sn) hx hb hr (fun t ht hW => ⟨⟨sn, (), rfl, ⟨fun h => absurd h hsw, fun _ => Or.inl rfl⟩, trivial⟩, hS.F ht⟩) hS.2.2 dX4_told_48
    · refine lv_tableIn (tgt := 49) hx hb dX4_told_1 (by omega) (by omega) (by rw [h_sw]; rfl) (by decide) ?_
      refine lv_aload_n hx hb dX4_told_49 rfl (lv_at hl 0 rfl) ?_
      refine va_get (D := (dC, dI)) (ci := 5) (v := .ref a0) (C := RX4) (T := TX4) (N := 14) hx hb hts (by decide +kernel) hown hK hP 0 rfl rfl 8 (by decide) (hts (.fieldLink RX4 35 "CobolDebugger" "items" "LCobolDebugger$Items;") (by decide +kernel)) (fun _ h9 => h9) rfl dX4_told_50 ?_
      refine va_getN (D := (dC, dI)) (ci := 1) (v := .int md) (C := RX0) (T := TX0) (N := 4) hx hb hts (by decide +kernel) hown hK hP 1 rfl rfl 3 (by decide) (va_Nw.use (w := .fieldLinkNest RX4 83 "CobolDebugger$Items" "made" "I" RX4) rfl (nwf hN (RX4, 83, "CobolDebugger$Items", "made", "I", RX4) (by decide +kernel))) (fun _ h9 => h9) rfl dX4_told_53 ?_
      exact W.iret (v := md) hx hb hr (fun t ht hW => ⟨⟨md, (), rfl, ⟨fun h => absurd h hsw, fun _ => Or.inr (Or.inl rfl)⟩, trivial⟩, hS.F ht⟩) hS.2.2 dX4_told_56
    · refine lv_tableIn (tgt := 57) hx hb dX4_told_1 (by omega) (by omega) (by rw [h_sw]; rfl) (by decide) ?_
      refine lv_aload_n hx hb dX4_told_57 rfl (lv_at hl 0 rfl) ?_
      refine va_get (D := (dC, dI)) (ci := 5) (v := .ref b0) (C := RX4) (T := TX4) (N := 14) hx hb hts (by decide +kernel) hown hK hP 0 rfl rfl 9 (by decide) (hts (.fieldLink RX4 42 "CobolDebugger" "stops" "LCobolDebugger$Stops;") (by decide +kernel)) (fun _ h9 => h9) rfl dX4_told_58 ?_
      refine va_getN (D := (dC, dI)) (ci := 4) (v := .int sm) (C := RX3) (T := TX3) (N := 4) hx hb hts (by decide +kernel) hown hK hP 4 rfl rfl 3 (by decide) (va_Nw.use (w := .fieldLinkNest RX4 166 "CobolDebugger$Stops" "made" "I" RX4) rfl (nwf hN (RX4, 166, "CobolDebugger$Stops", "made", "I", RX4) (by decide +kernel))) (fun _ h9 => h9) rfl dX4_told_61 ?_
      exact W.iret (v := sm) hx hb hr (fun t ht hW => ⟨⟨sm, (), rfl, ⟨fun h => absurd h hsw, fun _ => Or.inr (Or.inr (Or.inl rfl))⟩, trivial⟩, hS.F ht⟩) hS.2.2 dX4_told_64
    · refine lv_tableIn (tgt := 65) hx hb dX4_told_1 (by omega) (by omega) (by rw [h_sw]; rfl) (by decide) ?_
      refine lv_aload_n hx hb dX4_told_65 rfl (lv_at hl 0 rfl) ?_
      refine va_get (D := (dC, dI)) (ci := 5) (v := .int sd) (C := RX4) (T := TX4) (N := 14) hx hb hts (by decide +kernel) hown hK hP 0 rfl rfl 12 (by decide) (hts (.fieldLink RX4 72 "CobolDebugger" "stand" "I") (by decide +kernel)) (fun _ h9 => h9) rfl dX4_told_66 ?_
      exact W.iret (v := sd) hx hb hr (fun t ht hW => ⟨⟨sd, (), rfl, ⟨fun h => absurd h hsw, fun _ => Or.inr (Or.inr (Or.inr (Or.inl rfl)))⟩, trivial⟩, hS.F ht⟩) hS.2.2 dX4_told_69
    · refine lv_tableIn (tgt := 70) hx hb dX4_told_1 (by omega) (by omega) (by rw [h_sw]; rfl) (by decide) ?_
      refine lv_aload_n hx hb dX4_told_70 rfl (lv_at hl 0 rfl) ?_
      refine va_get (D := (dC, dI)) (ci := 5) (v := .ref k0) (C := RX4) (T := TX4) (N := 14) hx hb hts (by decide +kernel) hown hK hP 0 rfl rfl 11 (by decide) (hts (.fieldLink RX4 56 "CobolDebugger" "kept" "LCobolDebugger$Kept;") (by decide +kernel)) (fun _ h9 => h9) rfl dX4_told_71 ?_
      refine va_getN (D := (dC, dI)) (ci := 2) (v := .int rw) (C := RX1) (T := TX1) (N := 7) hx hb hts (by decide +kernel) hown hK hP 2 rfl rfl 6 (by decide) (va_Nw.use (w := .fieldLinkNest RX4 129 "CobolDebugger$Kept" "rows" "I" RX4) rfl (nwf hN (RX4, 129, "CobolDebugger$Kept", "rows", "I", RX4) (by decide +kernel))) (fun _ h9 => h9) rfl dX4_told_74 ?_
      exact W.iret (v := rw) hx hb hr (fun t ht hW => ⟨⟨rw, (), rfl, ⟨fun h => absurd h hsw, fun _ => Or.inr (Or.inr (Or.inr (Or.inr (Or.inl rfl))))⟩, trivial⟩, hS.F ht⟩) hS.2.2 dX4_told_77
    · refine lv_tableIn (tgt := 78) hx hb dX4_told_1 (by omega) (by omega) (by rw [h_sw]; rfl) (by decide) ?_
      refine lv_aload_n hx hb dX4_told_78 rfl (lv_at hl 0 rfl) ?_
      refine va_get (D := (dC, dI)) (ci := 5) (v := .int ft) (C := RX4) (T := TX4) (N := 14) hx hb hts (by decide +kernel) hown hK hP 0 rfl rfl 13 (by decide) (hts (.fieldLink RX4 167 "CobolDebugger" "faults" "I") (by decide +kernel)) (fun _ h9 => h9) rfl dX4_told_79 ?_
      exact W.iret (v := ft) hx hb hr (fun t ht hW => ⟨⟨ft, (), rfl, ⟨fun h => absurd h hsw, fun _ => Or.inr (Or.inr (Or.inr (Or.inr (Or.inr (Or.inl rfl)))))⟩, trivial⟩, hS.F ht⟩) hS.2.2 dX4_told_82
    · refine lv_tableIn (tgt := 83) hx hb dX4_told_1 (by omega) (by omega) (by rw [h_sw]; rfl) (by decide) ?_
      refine lv_aload_n hx hb dX4_told_83 rfl (lv_at hl 0 rfl) ?_
      refine va_get (D := (dC, dI)) (ci := 5) (v := .ref p0) (C := RX4) (T := TX4) (N := 14) hx hb hts (by decide +kernel) hown hK hP 0 rfl rfl 10 (by decide) (hts (.fieldLink RX4 49 "CobolDebugger" "performings" "LCobolDebugger$Performings;") (by decide +kernel)) (fun _ h9 => h9) rfl dX4_told_84 ?_
      refine va_getN (D := (dC, dI)) (ci := 3) (v := .int op) (C := RX2) (T := TX2) (N := 6) hx hb hts (by decide +kernel) hown hK hP 3 rfl rfl 2 (by decide) (va_Nw.use (w := .fieldLinkNest RX4 170 "CobolDebugger$Performings" "open" "I" RX4) rfl (nwf hN (RX4, 170, "CobolDebugger$Performings", "open", "I", RX4) (by decide +kernel))) (fun _ h9 => h9) rfl dX4_told_87 ?_
      exact W.iret (v := op) hx hb hr (fun t ht hW => ⟨⟨op, (), rfl, ⟨fun h => absurd h hsw, fun _ => Or.inr (Or.inr (Or.inr (Or.inr (Or.inr (Or.inr (rfl))))))⟩, trivial⟩, hS.F ht⟩) hS.2.2 dX4_told_90

set_option maxHeartbeats 4000000 in
set_option maxRecDepth 100000 in
theorem f_X4_step (l : Launch) (dC : Nat → ClassId) (dI : Nat → Nat → Nat) (h0 h1 h2 h3 h4 h5 h6 h7 a0 b0 p0 k0 : Nat) (sd ft : Int32) (st : Int32) (im : Int32) (v : Int64)  : Met l yX4_step wsX4_step ({ frames := 0, cells := 0, slots := 0, locals := 0 }) (va_Pc [.ref h0, .int st, .int im, .long v] (fun U => va_P (dC, dI) vwCl [(h0, .inr (5, [.ref h1, .ref h2, .ref h3, .ref h4, .int 0, .ref h5, .ref h6, .ref h7, .ref a0, .ref b0, .ref p0, .ref k0, .int sd, .int ft]))] U.heap ∧ va_K (dC, dI) vwCl [] U)) (va_Qi (fun (r : Int32) (_ : Unit) => r = (-2)) (fun _ _ => True) (fun _ => False)) 0 0 (fun _ => False) := by
  refine Met.ofW (cc := cX4_step) (maxL := 5) (ret := (some .int)) (by decide) rfl ?_
  intro p e s m args below meth c s₁ B hml hv
  obtain ⟨rfl, hP, hK⟩ := hv
  have hx := B.exec
  have hb := B.bytes
  have hr := B.returns
  have hts := atoms_spec (ws := wsX4_step) B.pre
  have hown : s.vm.findClass RX4 = some m.cls := findClass_of_methodNamed B.named
  have hlocks := B.notSynchronized
  have hS : va_S (fun _ => False) s.heap s.heap [] := va_S.rf
  have hl := lv_entry ([.ref h0, .int st, .int im, .long v]) (n := 5) (Nat.le_of_ble_eq_true rfl)
  rw [lg_entry_eq]
  generalize (lg_sl ([.ref h0, .int st, .int im, .long v]) ++ List.replicate (5 - (lg_sl ([.ref h0, .int st, .int im, .long v])).length) Slot.unset).toArray = ls at hl ⊢
  have hl : lv_has ls 5 [(0, .ref h0), (1, .int st), (2, .int im), (3, .long v)] := hl
  refine lv_iload_n hx hb dX4_step_0 rfl (lv_at hl 1 rfl) ?_
  refine lv_iconst (v := 1) hx hb dX4_step_1 (by decide) ?_
  refine lv_icmp_lt (tgt := 24) hx hb dX4_step_2 (by decide) (fun c_2 => ?_) (fun c_2 => ?_)
  · refine lv_bipush (v := (-2)) hx hb dX4_step_24 (by decide) ?_
    exact W.iret (v := (-2)) hx hb hr (fun t ht hW => ⟨⟨(-2), (), rfl, rfl, trivial⟩, hS.F ht⟩) hS.2.2 dX4_step_26
  · refine lv_iload_n hx hb dX4_step_5 rfl (lv_at hl 1 rfl) ?_
    refine lv_aload_n hx hb dX4_step_6 rfl (lv_at hl 0 rfl) ?_
    refine va_get (D := (dC, dI)) (ci := 5) (v := .int 0) (C := RX4) (T := TX4) (N := 14) hx hb hts (by decide +kernel) hown hK hP 0 rfl rfl 4 (by decide) (hts (.fieldLink RX4 64 "CobolDebugger" "statements" "I") (by decide +kernel)) (fun _ h9 => h9) rfl dX4_step_7 ?_
    refine lv_icmp_gt (tgt := 24) hx hb dX4_step_10 (by decide) (fun c_10 => ?_) (fun c_10 => ?_)
    · refine lv_bipush (v := (-2)) hx hb dX4_step_24 (by decide) ?_
      exact W.iret (v := (-2)) hx hb hr (fun t ht hW => ⟨⟨(-2), (), rfl, rfl, trivial⟩, hS.F ht⟩) hS.2.2 dX4_step_26
    · exact (fr_st c_2 c_10).elim

set_option maxHeartbeats 4000000 in
set_option maxRecDepth 100000 in
theorem f_X4_run (l : Launch) (dC : Nat → ClassId) (dI : Nat → Nat → Nat) (h0 h1 h2 h3 h4 h5 h6 h7 a0 b0 p0 k0 : Nat) (sn ft : Int32) (n : Int32)  : Met l yX4_run wsX4_run ({ frames := 0, cells := 0, slots := 0, locals := 0 }) (va_Pc [.ref h0, .int n] (fun U => va_P (dC, dI) vwCl [(h0, .inr (5, [.ref h1, .ref h2, .ref h3, .ref h4, .int sn, .ref h5, .ref h6, .ref h7, .ref a0, .ref b0, .ref p0, .ref k0, .int 0, .int ft]))] U.heap ∧ va_K (dC, dI) vwCl [] U)) (va_Qi (fun (r : Int32) (_ : Unit) => r = if n < 0 ∨ 200 < n then (-4) else 0) (fun _ _ => True) (fun _ => False)) 0 0 (fun _ => False) := by
  refine Met.ofW (cc := cX4_run) (maxL := 4) (ret := (some .int)) (by decide) rfl ?_
  intro p e s m args below meth c s₁ B hml hv
  obtain ⟨rfl, hP, hK⟩ := hv
  have hx := B.exec
  have hb := B.bytes
  have hr := B.returns
  have hts := atoms_spec (ws := wsX4_run) B.pre
  have hown : s.vm.findClass RX4 = some m.cls := findClass_of_methodNamed B.named
  have hlocks := B.notSynchronized
  have hS : va_S (fun _ => False) s.heap s.heap [] := va_S.rf
  have hl := lv_entry ([.ref h0, .int n]) (n := 4) (Nat.le_of_ble_eq_true rfl)
  rw [lg_entry_eq]
  generalize (lg_sl ([.ref h0, .int n]) ++ List.replicate (4 - (lg_sl ([.ref h0, .int n])).length) Slot.unset).toArray = ls at hl ⊢
  have hl : lv_has ls 4 [(0, .ref h0), (1, .int n)] := hl
  refine lv_iload_n hx hb dX4_run_0 rfl (lv_at hl 1 rfl) ?_
  refine lv_if_lt (tgt := 11) hx hb dX4_run_1 (by decide) (fun c_1 => ?_) (fun c_1 => ?_)
  · refine lv_bipush (v := (-4)) hx hb dX4_run_11 (by decide) ?_
    exact W.iret (v := (-4)) hx hb hr (fun t ht hW => ⟨⟨(-4), (), rfl, by simp [c_1], trivial⟩, hS.F ht⟩) hS.2.2 dX4_run_13
  · refine lv_iload_n hx hb dX4_run_4 rfl (lv_at hl 1 rfl) ?_
    refine lv_sipush (v := 200) hx hb dX4_run_5 (by decide) ?_
    refine lv_icmp_le (tgt := 14) hx hb dX4_run_8 (by decide) (fun c_8 => ?_) (fun c_8 => ?_)
    · refine lv_iconst (v := 0) hx hb dX4_run_14 (by decide) ?_
      refine lv_istore_n (lv' := [(2, .int 0), (0, .ref h0), (1, .int n)]) hx hb dX4_run_15 rfl hl (by decide) rfl (fun ls hl => ?_)
      refine lv_iload_n hx hb dX4_run_16 rfl (lv_at hl 0 rfl) ?_
      refine lv_iload_n hx hb dX4_run_17 rfl (lv_at hl 2 rfl) ?_
      refine lv_icmp_ge (tgt := 73) hx hb dX4_run_18 (by decide) (fun c_18 => ?_) (fun c_18 => ?_)
      · refine lv_iconst (v := 0) hx hb dX4_run_73 (by decide) ?_
        exact W.iret (v := 0) hx hb hr (fun t ht hW => ⟨⟨0, (), rfl, by simp [c_1, c_8], trivial⟩, hS.F ht⟩) hS.2.2 dX4_run_74
      · refine lv_aload_n hx hb dX4_run_21 rfl (lv_at hl 1 rfl) ?_
        refine va_get (D := (dC, dI)) (ci := 5) (v := .int 0) (C := RX4) (T := TX4) (N := 14) hx hb hts (by decide +kernel) hown hK hP 0 rfl rfl 12 (by decide) (hts (.fieldLink RX4 72 "CobolDebugger" "stand" "I") (by decide +kernel)) (fun _ h9 => h9) rfl dX4_run_22 ?_
        refine lv_if_eq (tgt := 73) hx hb dX4_run_25 (by decide) (fun c_25 => ?_) (fun c_25 => ?_)
        · refine lv_iconst (v := 0) hx hb dX4_run_73 (by decide) ?_
          exact W.iret (v := 0) hx hb hr (fun t ht hW => ⟨⟨0, (), rfl, by simp [c_1, c_8], trivial⟩, hS.F ht⟩) hS.2.2 dX4_run_74
        · exact absurd (rfl : (0 : Int32) = 0) c_25
    · refine lv_bipush (v := (-4)) hx hb dX4_run_11 (by decide) ?_
      exact W.iret (v := (-4)) hx hb hr (fun t ht hW => ⟨⟨(-4), (), rfl, by simp [c_1, c_8], trivial⟩, hS.F ht⟩) hS.2.2 dX4_run_13

set_option maxHeartbeats 4000000 in
set_option maxRecDepth 100000 in
theorem f_X4_back (l : Launch) (dC : Nat → ClassId) (dI : Nat → Nat → Nat) (h0 h1 h2 h3 h4 h5 h6 h7 a0 b0 p0 k0 k1 k2 k3 k4 : Nat) (sn ft nx nw : Int32) (n : Int32)  : Met l yX4_back wsX4_back ({ frames := 0, cells := 0, slots := 0, locals := 0 }) (va_Pc [.ref h0, .int n] (fun U => va_P (dC, dI) vwCl [(h0, .inr (5, [.ref h1, .ref h2, .ref h3, .ref h4, .int sn, .ref h5, .ref h6, .ref h7, .ref a0, .ref b0, .ref p0, .ref k0, .int 0, .int ft])), (k0, .inr (2, [.ref k1, .ref k2, .ref k3, .ref k4, .int nx, .int nw, .int 0]))] U.heap ∧ va_K (dC, dI) vwCl [] U ∧ nW U)) (va_Qi (fun (r : Int32) (_ : Unit) => r = if n < 0 ∨ 0 < n then (-4) else 0) (fun _ _ => True) (fun _ => False)) 0 0 (fun _ => False) := by
  refine Met.ofW (cc := cX4_back) (maxL := 3) (ret := (some .int)) (by decide) rfl ?_
  intro p e s m args below meth c s₁ B hml hv
  obtain ⟨rfl, hP, hK, hN⟩ := hv
  have hx := B.exec
  have hb := B.bytes
  have hr := B.returns
  have hts := atoms_spec (ws := wsX4_back) B.pre
  have hown : s.vm.findClass RX4 = some m.cls := findClass_of_methodNamed B.named
  have hlocks := B.notSynchronized
  have hS : va_S (fun _ => False) s.heap s.heap [] := va_S.rf
  have hl := lv_entry ([.ref h0, .int n]) (n := 3) (Nat.le_of_ble_eq_true rfl)
  rw [lg_entry_eq]
  generalize (lg_sl ([.ref h0, .int n]) ++ List.replicate (3 - (lg_sl ([.ref h0, .int n])).length) Slot.unset).toArray = ls at hl ⊢
  have hl : lv_has ls 3 [(0, .ref h0), (1, .int n)] := hl
  refine lv_iload_n hx hb dX4_back_0 rfl (lv_at hl 1 rfl) ?_
  refine lv_if_lt (tgt := 15) hx hb dX4_back_1 (by decide) (fun c_1 => ?_) (fun c_1 => ?_)
  · refine lv_bipush (v := (-4)) hx hb dX4_back_15 (by decide) ?_
    exact W.iret (v := (-4)) hx hb hr (fun t ht hW => ⟨⟨(-4), (), rfl, by simp [c_1], trivial⟩, hS.F ht⟩) hS.2.2 dX4_back_17
  · refine lv_iload_n hx hb dX4_back_4 rfl (lv_at hl 1 rfl) ?_
    refine lv_aload_n hx hb dX4_back_5 rfl (lv_at hl 0 rfl) ?_
    refine va_get (D := (dC, dI)) (ci := 5) (v := .ref k0) (C := RX4) (T := TX4) (N := 14) hx hb hts (by decide +kernel) hown hK hP 0 rfl rfl 11 (by decide) (hts (.fieldLink RX4 56 "CobolDebugger" "kept" "LCobolDebugger$Kept;") (by decide +kernel)) (fun _ h9 => h9) rfl dX4_back_6 ?_
    refine va_getN (D := (dC, dI)) (ci := 2) (v := .int 0) (C := RX1) (T := TX1) (N := 7) hx hb hts (by decide +kernel) hown hK hP 1 rfl rfl 6 (by decide) (va_Nw.use (w := .fieldLinkNest RX4 129 "CobolDebugger$Kept" "rows" "I" RX4) rfl (nwf hN (RX4, 129, "CobolDebugger$Kept", "rows", "I", RX4) (by decide +kernel))) (fun _ h9 => h9) rfl dX4_back_9 ?_
    refine lv_icmp_le (tgt := 18) hx hb dX4_back_12 (by decide) (fun c_12 => ?_) (fun c_12 => ?_)
    · refine lv_iconst (v := 0) hx hb dX4_back_18 (by decide) ?_
      refine lv_istore_n (lv' := [(2, .int 0), (0, .ref h0), (1, .int n)]) hx hb dX4_back_19 rfl hl (by decide) rfl (fun ls hl => ?_)
      refine lv_iload_n hx hb dX4_back_20 rfl (lv_at hl 0 rfl) ?_
      refine lv_iload_n hx hb dX4_back_21 rfl (lv_at hl 2 rfl) ?_
      refine lv_icmp_ge (tgt := 35) hx hb dX4_back_22 (by decide) (fun c_22 => ?_) (fun c_22 => ?_)
      · refine lv_aload_n hx hb dX4_back_35 rfl (lv_at hl 1 rfl) ?_
        refine va_get (D := (dC, dI)) (ci := 5) (v := .int 0) (C := RX4) (T := TX4) (N := 14) hx hb hts (by decide +kernel) hown hK hP 0 rfl rfl 12 (by decide) (hts (.fieldLink RX4 72 "CobolDebugger" "stand" "I") (by decide +kernel)) (fun _ h9 => h9) rfl dX4_back_36 ?_
        exact W.iret (v := 0) hx hb hr (fun t ht hW => ⟨⟨0, (), rfl, by simp [c_1, c_12], trivial⟩, hS.F ht⟩) hS.2.2 dX4_back_39
      · exact absurd c_12 c_22
    · refine lv_bipush (v := (-4)) hx hb dX4_back_15 (by decide) ?_
      exact W.iret (v := (-4)) hx hb hr (fun t ht hW => ⟨⟨(-4), (), rfl, by simp [c_1, c_12], trivial⟩, hS.F ht⟩) hS.2.2 dX4_back_17

set_option maxHeartbeats 4000000 in
set_option maxRecDepth 100000 in
theorem f_X4_change (l : Launch) (dC : Nat → ClassId) (dI : Nat → Nat → Nat) (h0 h1 h2 h3 h4 h5 h6 h7 a0 b0 p0 k0 a1 a2 a3 : Nat) (sn sd ft : Int32) (im : Int32) (v : Int64)  : Met l yX4_change wsX4_change ({ frames := 1, cells := 0, slots := 0, locals := 21 }) (va_Pc [.ref h0, .int im, .long v] (fun U => va_P (dC, dI) vwCl [(h0, .inr (5, [.ref h1, .ref h2, .ref h3, .ref h4, .int sn, .ref h5, .ref h6, .ref h7, .ref a0, .ref b0, .ref p0, .ref k0, .int sd, .int ft])), (a0, .inr (1, [.ref a1, .ref a2, .ref a3, .int 0]))] U.heap ∧ va_K (dC, dI) vwCl [] U ∧ nW U)) (va_Qi (fun (r : Int32) (_ : Unit) => r = (-2)) (fun _ _ => True) (fun _ => False)) 0 0 (fun _ => False) := by
  refine Met.ofW (cc := cX4_change) (maxL := 4) (ret := (some .int)) (by decide) rfl ?_
  intro p e s m args below meth c s₁ B hml hv
  obtain ⟨rfl, hP, hK, hN⟩ := hv
  have hx := B.exec
  have hb := B.bytes
  have hr := B.returns
  have hts := atoms_spec (ws := wsX4_change) B.pre
  have hown : s.vm.findClass RX4 = some m.cls := findClass_of_methodNamed B.named
  have hlocks := B.notSynchronized
  have hS : va_S (fun _ => False) s.heap s.heap [] := va_S.rf
  have hl := lv_entry ([.ref h0, .int im, .long v]) (n := 4) (Nat.le_of_ble_eq_true rfl)
  rw [lg_entry_eq]
  generalize (lg_sl ([.ref h0, .int im, .long v]) ++ List.replicate (4 - (lg_sl ([.ref h0, .int im, .long v])).length) Slot.unset).toArray = ls at hl ⊢
  have hl : lv_has ls 4 [(0, .ref h0), (1, .int im), (2, .long v)] := hl
  refine lv_aload_n hx hb dX4_change_0 rfl (lv_at hl 0 rfl) ?_
  refine va_get (D := (dC, dI)) (ci := 5) (v := .ref a0) (C := RX4) (T := TX4) (N := 14) hx hb hts (by decide +kernel) hown hK hP 0 rfl rfl 8 (by decide) (hts (.fieldLink RX4 35 "CobolDebugger" "items" "LCobolDebugger$Items;") (by decide +kernel)) (fun _ h9 => h9) rfl dX4_change_1 ?_
  refine lv_iload_n hx hb dX4_change_4 rfl (lv_at hl 1 rfl) ?_
  have hPc := hP.sub (ws' := [(a0, .inr (1, [.ref a1, .ref a2, .ref a3, .int 0]))]) [1] rfl
  have hKc := hK.sub (tys' := []) [] rfl
  refine va_calli (va_runVN (C := RX0) (As := [.int im]) (rest := []) ⟨hx, hb, hml, hown, hts⟩ (c_X0_has l dC dI a0 a1 a2 a3 0 im) ⟨va_cnB 1 hts gX4_change_X0_has_n86 rfl rfl rfl (nwm hN (RX4, 86, yX0_has, RX4) (by decide +kernel)) (hts (.initialized RX0) (by decide +kernel)) (by decide +kernel) ⟨Nat.le_of_ble_eq_true rfl, Nat.le_of_ble_eq_true rfl⟩, hts (.instanceMethod yX0_has) (by decide +kernel), hts (.selects RX0 yX0_has yX0_has) (by decide +kernel)⟩ ⟨fun a U g mk q => by obtain ⟨q0, qP, qK⟩ := q; exact ⟨q0, qP, va_K.moved (u := U) (U := U.calling g mk a) (Vm.Alike.refl U.vm) qK⟩, va_recv hKc hPc (ci := 1) (q0 := 0) rfl rfl, fun U hU hW => ⟨rfl, by rw [hU]; exact hPc, va_K.moved hW.alike hKc⟩⟩ rfl rfl hl.1 rfl (lv_room (Nat.le_of_ble_eq_true rfl)) dX4_change_5 ⟨Nat.zero_le _, Nat.zero_le _⟩) hS (fun q _ h => h.elim) (fun q h => h.elim) (fun r_5 u t H1 locs ht hvm w_5 hB hz1 hk1 hS => ?_)
  try dsimp only at w_5
  have hP := rd_keep hP hk1
  clear hB hk1 hz1 ht hvm u t
  generalize H1 = H at hP hS ⊢
  have w_5 := z01 w_5
  refine lv_if_ne (tgt := 14) hx hb dX4_change_8 (by decide) (fun c_8 => ?_) (fun c_8 => ?_)
  · exact absurd (w_5.mpr (fr_has im)) c_8
  · refine lv_bipush (v := (-2)) hx hb dX4_change_11 (by decide) ?_
    exact W.iret (v := (-2)) hx hb hr (fun t ht hW => ⟨⟨(-2), (), rfl, rfl, trivial⟩, hS.F ht⟩) hS.2.2 dX4_change_13

set_option maxHeartbeats 4000000 in
set_option maxRecDepth 100000 in
theorem f_X4_poke (l : Launch) (dC : Nat → ClassId) (dI : Nat → Nat → Nat) (h0 h1 h2 h3 h4 h5 h6 h7 a0 b0 p0 k0 a1 a2 a3 : Nat) (sn sd ft : Int32) (im : Int32) (i : Int32) (b : Int32)  : Met l yX4_poke wsX4_poke ({ frames := 1, cells := 0, slots := 0, locals := 21 }) (va_Pc [.ref h0, .int im, .int i, .int b] (fun U => va_P (dC, dI) vwCl [(h0, .inr (5, [.ref h1, .ref h2, .ref h3, .ref h4, .int sn, .ref h5, .ref h6, .ref h7, .ref a0, .ref b0, .ref p0, .ref k0, .int sd, .int ft])), (a0, .inr (1, [.ref a1, .ref a2, .ref a3, .int 0]))] U.heap ∧ va_K (dC, dI) vwCl [] U ∧ nW U)) (va_Qi (fun (r : Int32) (_ : Unit) => r = (-2)) (fun _ _ => True) (fun _ => False)) 0 0 (fun _ => False) := by
  refine Met.ofW (cc := cX4_poke) (maxL := 4) (ret := (some .int)) (by decide) rfl ?_
  intro p e s m args below meth c s₁ B hml hv
  obtain ⟨rfl, hP, hK, hN⟩ := hv
  have hx := B.exec
  have hb := B.bytes
  have hr := B.returns
  have hts := atoms_spec (ws := wsX4_poke) B.pre
  have hown : s.vm.findClass RX4 = some m.cls := findClass_of_methodNamed B.named
  have hlocks := B.notSynchronized
  have hS : va_S (fun _ => False) s.heap s.heap [] := va_S.rf
  have hl := lv_entry ([.ref h0, .int im, .int i, .int b]) (n := 4) (Nat.le_of_ble_eq_true rfl)
  rw [lg_entry_eq]
  generalize (lg_sl ([.ref h0, .int im, .int i, .int b]) ++ List.replicate (4 - (lg_sl ([.ref h0, .int im, .int i, .int b])).length) Slot.unset).toArray = ls at hl ⊢
  have hl : lv_has ls 4 [(0, .ref h0), (1, .int im), (2, .int i), (3, .int b)] := hl
  refine lv_aload_n hx hb dX4_poke_0 rfl (lv_at hl 0 rfl) ?_
  refine va_get (D := (dC, dI)) (ci := 5) (v := .ref a0) (C := RX4) (T := TX4) (N := 14) hx hb hts (by decide +kernel) hown hK hP 0 rfl rfl 8 (by decide) (hts (.fieldLink RX4 35 "CobolDebugger" "items" "LCobolDebugger$Items;") (by decide +kernel)) (fun _ h9 => h9) rfl dX4_poke_1 ?_
  refine lv_iload_n hx hb dX4_poke_4 rfl (lv_at hl 1 rfl) ?_
  have hPc := hP.sub (ws' := [(a0, .inr (1, [.ref a1, .ref a2, .ref a3, .int 0]))]) [1] rfl
  have hKc := hK.sub (tys' := []) [] rfl
  refine va_calli (va_runVN (C := RX0) (As := [.int im]) (rest := []) ⟨hx, hb, hml, hown, hts⟩ (c_X0_has l dC dI a0 a1 a2 a3 0 im) ⟨va_cnB 1 hts gX4_poke_X0_has_n86 rfl rfl rfl (nwm hN (RX4, 86, yX0_has, RX4) (by decide +kernel)) (hts (.initialized RX0) (by decide +kernel)) (by decide +kernel) ⟨Nat.le_of_ble_eq_true rfl, Nat.le_of_ble_eq_true rfl⟩, hts (.instanceMethod yX0_has) (by decide +kernel), hts (.selects RX0 yX0_has yX0_has) (by decide +kernel)⟩ ⟨fun a U g mk q => by obtain ⟨q0, qP, qK⟩ := q; exact ⟨q0, qP, va_K.moved (u := U) (U := U.calling g mk a) (Vm.Alike.refl U.vm) qK⟩, va_recv hKc hPc (ci := 1) (q0 := 0) rfl rfl, fun U hU hW => ⟨rfl, by rw [hU]; exact hPc, va_K.moved hW.alike hKc⟩⟩ rfl rfl hl.1 rfl (lv_room (Nat.le_of_ble_eq_true rfl)) dX4_poke_5 ⟨Nat.zero_le _, Nat.zero_le _⟩) hS (fun q _ h => h.elim) (fun q h => h.elim) (fun r_5 u t H1 locs ht hvm w_5 hB hz1 hk1 hS => ?_)
  try dsimp only at w_5
  have hP := rd_keep hP hk1
  clear hB hk1 hz1 ht hvm u t
  generalize H1 = H at hP hS ⊢
  have w_5 := z01 w_5
  refine lv_if_ne (tgt := 14) hx hb dX4_poke_8 (by decide) (fun c_8 => ?_) (fun c_8 => ?_)
  · exact absurd (w_5.mpr (fr_has im)) c_8
  · refine lv_bipush (v := (-2)) hx hb dX4_poke_11 (by decide) ?_
    exact W.iret (v := (-2)) hx hb hr (fun t ht hW => ⟨⟨(-2), (), rfl, rfl, trivial⟩, hS.F ht⟩) hS.2.2 dX4_poke_13
