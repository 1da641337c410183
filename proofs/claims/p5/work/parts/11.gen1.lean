set_option maxHeartbeats 4000000 in
set_option maxRecDepth 100000 in
theorem c_X0_hasByte (l : Launch) (dC : Nat → ClassId) (dI : Nat → Nat → Nat) (a0 a1 a2 a3 : Nat) (ka2 : ClassId) (ss : Nat → Int32) (md : Int32) (im : Int32) (i : Int32) (him : vp_in im 30) : Met l yX0_hasByte wsX0_hasByte ({ frames := 0, cells := 0, slots := 0, locals := 0 }) (va_Pc [.ref a0, .int im, .int i] (fun U => va_P (dC, dI) vwCl [(a0, .inr (1, [.ref a1, .ref a2, .ref a3, .int md])), (a2, .inl (ka2, 30, .inl ss))] U.heap ∧ va_K (dC, dI) vwCl [(ka2, .int)] U)) (va_Qi (fun (r : Int32) (_ : Unit) => r = if i < 0 ∨ ss im.toNatClampNeg ≤ i then 0 else 1) (fun _ _ => True) (fun _ => False)) 0 0 (fun _ => False) := by
  refine Met.ofW (cc := cX0_hasByte) (maxL := 3) (ret := (some .boolean)) (by decide) rfl ?_
  intro p e s m args below meth c s₁ B hml hv
  obtain ⟨rfl, hP, hK⟩ := hv
  have hx := B.exec
  have hb := B.bytes
  have hr := B.returns
  have hts := atoms_spec (ws := wsX0_hasByte) B.pre
  have hown : s.vm.findClass RX0 = some m.cls := findClass_of_methodNamed B.named
  have hlocks := B.notSynchronized
  have hS : va_S (fun _ => False) s.heap s.heap [] := va_S.rf
  have hl := lv_entry ([.ref a0, .int im, .int i]) (n := 3) (Nat.le_of_ble_eq_true rfl)
  rw [lg_entry_eq]
  generalize (lg_sl ([.ref a0, .int im, .int i]) ++ List.replicate (3 - (lg_sl ([.ref a0, .int im, .int i])).length) Slot.unset).toArray = ls at hl ⊢
  have hl : lv_has ls 3 [(0, .ref a0), (1, .int im), (2, .int i)] := hl
  refine lv_iload_n hx hb dX0_hasByte_0 rfl (lv_at hl 2 rfl) ?_
  refine lv_if_lt (tgt := 18) hx hb dX0_hasByte_1 (by decide) (fun c_1 => ?_) (fun c_1 => ?_)
  · refine lv_iconst (v := 0) hx hb dX0_hasByte_18 (by decide) ?_
    exact W.zret (v := 0) hx hb hr (by decide) (fun t ht hW => ⟨⟨0, (), rfl, by simp [c_1], trivial⟩, hS.F ht⟩) hS.2.2 dX0_hasByte_19
  · refine lv_iload_n hx hb dX0_hasByte_4 rfl (lv_at hl 2 rfl) ?_
    refine lv_aload_n hx hb dX0_hasByte_5 rfl (lv_at hl 0 rfl) ?_
    refine va_get (D := (dC, dI)) (ci := 1) (v := .ref a2) (C := RX0) (T := TX0) (N := 4) hx hb hts (by decide +kernel) hown hK hP 0 rfl rfl 1 (by decide) (hts (.fieldLink RX0 15 "CobolDebugger$Items" "sizes" "[I") (by decide +kernel)) (fun _ h9 => h9) rfl dX0_hasByte_6 ?_
    refine lv_iload_n hx hb dX0_hasByte_9 rfl (lv_at hl 1 rfl) ?_
    refine va_iald hx hb hK hP 1 0 rfl rfl (i := im) him dX0_hasByte_10 ?_
    refine lv_icmp_ge (tgt := 18) hx hb dX0_hasByte_11 (by decide) (fun c_11 => ?_) (fun c_11 => ?_)
    · refine lv_iconst (v := 0) hx hb dX0_hasByte_18 (by decide) ?_
      exact W.zret (v := 0) hx hb hr (by decide) (fun t ht hW => ⟨⟨0, (), rfl, by simp [c_1, c_11], trivial⟩, hS.F ht⟩) hS.2.2 dX0_hasByte_19
    · refine lv_iconst (v := 1) hx hb dX0_hasByte_14 (by decide) ?_
      refine lv_goto (tgt := 19) hx hb dX0_hasByte_15 (by decide) ?_
      exact W.zret (v := 1) hx hb hr (by decide) (fun t ht hW => ⟨⟨1, (), rfl, by simp [c_1, c_11], trivial⟩, hS.F ht⟩) hS.2.2 dX0_hasByte_19

set_option maxHeartbeats 4000000 in
set_option maxRecDepth 100000 in
theorem c_X0_byteAt (l : Launch) (dC : Nat → ClassId) (dI : Nat → Nat → Nat) (a0 a1 a2 a3 : Nat) (ka3 : ClassId) (bs : Nat → Int32) (md : Int32) (im : Int32) (i : Int32) (hix : vp_in (im * 9 + i) 270) (hfb : fitB bs) : Met l yX0_byteAt wsX0_byteAt ({ frames := 0, cells := 0, slots := 0, locals := 0 }) (va_Pc [.ref a0, .int im, .int i] (fun U => va_P (dC, dI) vwCl [(a0, .inr (1, [.ref a1, .ref a2, .ref a3, .int md])), (a3, .inl (ka3, 270, .inl bs))] U.heap ∧ va_K (dC, dI) vwCl [(ka3, .byte)] U)) (va_Qi (fun (r : Int32) (_ : Unit) => narrow .byte (.int r) = .int r) (fun _ _ => True) (fun _ => False)) 0 0 (fun _ => False) := by
  refine Met.ofW (cc := cX0_byteAt) (maxL := 3) (ret := (some .byte)) (by decide) rfl ?_
  intro p e s m args below meth c s₁ B hml hv
  obtain ⟨rfl, hP, hK⟩ := hv
  have hx := B.exec
  have hb := B.bytes
  have hr := B.returns
  have hts := atoms_spec (ws := wsX0_byteAt) B.pre
  have hown : s.vm.findClass RX0 = some m.cls := findClass_of_methodNamed B.named
  have hlocks := B.notSynchronized
  have hS : va_S (fun _ => False) s.heap s.heap [] := va_S.rf
  have hl := lv_entry ([.ref a0, .int im, .int i]) (n := 3) (Nat.le_of_ble_eq_true rfl)
  rw [lg_entry_eq]
  generalize (lg_sl ([.ref a0, .int im, .int i]) ++ List.replicate (3 - (lg_sl ([.ref a0, .int im, .int i])).length) Slot.unset).toArray = ls at hl ⊢
  have hl : lv_has ls 3 [(0, .ref a0), (1, .int im), (2, .int i)] := hl
  refine lv_aload_n hx hb dX0_byteAt_0 rfl (lv_at hl 0 rfl) ?_
  refine va_get (D := (dC, dI)) (ci := 1) (v := .ref a3) (C := RX0) (T := TX0) (N := 4) hx hb hts (by decide +kernel) hown hK hP 0 rfl rfl 2 (by decide) (hts (.fieldLink RX0 18 "CobolDebugger$Items" "bytes" "[B") (by decide +kernel)) (fun _ h9 => h9) rfl dX0_byteAt_1 ?_
  refine lv_iload_n hx hb dX0_byteAt_4 rfl (lv_at hl 1 rfl) ?_
  refine lv_bipush (v := 9) hx hb dX0_byteAt_5 (by decide) ?_
  refine lv_imul hx hb dX0_byteAt_7 ?_
  refine lv_iload_n hx hb dX0_byteAt_8 rfl (lv_at hl 2 rfl) ?_
  refine lv_iadd hx hb dX0_byteAt_9 ?_
  refine va_bald hx hb hK hP 1 0 rfl rfl (i := (im * 9) + i) hix dX0_byteAt_10 ?_
  exact W.zret (v := bs ((im * 9) + i).toNatClampNeg) hx hb hr (nb_fit (hfb _)) (fun t ht hW => ⟨⟨(bs ((im * 9) + i).toNatClampNeg), (), rfl, nb_fit (hfb _), trivial⟩, hS.F ht⟩) hS.2.2 dX0_byteAt_11

set_option maxHeartbeats 4000000 in
set_option maxRecDepth 100000 in
theorem c_X0_setByte (l : Launch) (dC : Nat → ClassId) (dI : Nat → Nat → Nat) (sz : Nat) (a0 a1 a2 a3 : Nat) (ka3 : ClassId) (bs : Nat → Int32) (md : Int32) (im : Int32) (i : Int32) (b : Int32) (hix : vp_in (im * 9 + i) 270) : Met l yX0_setByte wsX0_setByte ({ frames := 0, cells := 0, slots := 0, locals := 0 }) (va_Pc [.ref a0, .int im, .int i, .int b] (fun U => U.heap.size = sz ∧ va_P (dC, dI) vwCl [(a0, .inr (1, [.ref a1, .ref a2, .ref a3, .int md])), (a3, .inl (ka3, 270, .inl bs))] U.heap ∧ va_K (dC, dI) vwCl [(ka3, .byte)] U ∧ va_D (fun _ => True) [(a0, .inr (1, [.ref a1, .ref a2, .ref a3, .int md])), (a3, .inl (ka3, 270, .inl bs))])) (va_Qv (fun (u : Nat → Int32) => fitB bs → fitB u) (fun (u : Nat → Int32) (t : State) => va_P (dC, dI) vwCl [(a0, .inr (1, [.ref a1, .ref a2, .ref a3, .int md])), (a3, .inl (ka3, 270, .inl u))] t.heap ∧ va_D (va_A [(a0, .inr (1, [.ref a1, .ref a2, .ref a3, .int md])), (a3, .inl (ka3, 270, .inl bs))] sz) [(a0, .inr (1, [.ref a1, .ref a2, .ref a3, .int md])), (a3, .inl (ka3, 270, .inl u))]) (va_A [(a0, .inr (1, [.ref a1, .ref a2, .ref a3, .int md])), (a3, .inl (ka3, 270, .inl bs))] sz)) 0 0 (va_A [(a0, .inr (1, [.ref a1, .ref a2, .ref a3, .int md])), (a3, .inl (ka3, 270, .inl bs))] sz) := by
  refine Met.ofW (cc := cX0_setByte) (maxL := 4) (ret := none) (by decide) rfl ?_
  intro p e s m args below meth c s₁ B hml hv
  obtain ⟨rfl, hsz, hP, hK, hD0⟩ := hv
  have hx := B.exec
  have hb := B.bytes
  have hr := B.returns
  have hts := atoms_spec (ws := wsX0_setByte) B.pre
  have hown : s.vm.findClass RX0 = some m.cls := findClass_of_methodNamed B.named
  have hlocks := B.notSynchronized
  subst hsz
  have hD := hD0.self (sz := s.heap.size)
  generalize hAe : va_A [(a0, .inr (1, [.ref a1, .ref a2, .ref a3, .int md])), (a3, .inl (ka3, 270, .inl bs))] s.heap.size = A at hD ⊢
  have hA : ∀ q : Nat, s.heap.size ≤ q → A q := fun q h => by rw [← hAe]; exact Or.inr h
  have hS : va_S A s.heap s.heap [] := va_S.rf
  have hl := lv_entry ([.ref a0, .int im, .int i, .int b]) (n := 4) (Nat.le_of_ble_eq_true rfl)
  rw [lg_entry_eq]
  generalize (lg_sl ([.ref a0, .int im, .int i, .int b]) ++ List.replicate (4 - (lg_sl ([.ref a0, .int im, .int i, .int b])).length) Slot.unset).toArray = ls at hl ⊢
  have hl : lv_has ls 4 [(0, .ref a0), (1, .int im), (2, .int i), (3, .int b)] := hl
  refine lv_aload_n hx hb dX0_setByte_0 rfl (lv_at hl 0 rfl) ?_
  refine va_get (D := (dC, dI)) (ci := 1) (v := .ref a3) (C := RX0) (T := TX0) (N := 4) hx hb hts (by decide +kernel) hown hK hP 0 rfl rfl 2 (by decide) (hts (.fieldLink RX0 18 "CobolDebugger$Items" "bytes" "[B") (by decide +kernel)) (fun _ h9 => h9) rfl dX0_setByte_1 ?_
  refine lv_iload_n hx hb dX0_setByte_4 rfl (lv_at hl 1 rfl) ?_
  refine lv_bipush (v := 9) hx hb dX0_setByte_5 (by decide) ?_
  refine lv_imul hx hb dX0_setByte_7 ?_
  refine lv_iload_n hx hb dX0_setByte_8 rfl (lv_at hl 2 rfl) ?_
  refine lv_iadd hx hb dX0_setByte_9 ?_
  refine lv_iload_n hx hb dX0_setByte_10 rfl (lv_at hl 3 rfl) ?_
  refine va_bast hx hb hK hP hD hS 1 0 rfl rfl (i := (im * 9) + i) hix dX0_setByte_11 (fun H locs hP hD hS => ?_)
  have hP : va_P (dC, dI) vwCl [(a0, .inr (1, [.ref a1, .ref a2, .ref a3, .int md])), (a3, .inl (ka3, 270, .inl (upd bs ((im * 9) + i).toNatClampNeg (vp_nar .byte b))))] H := hP
  have hD : va_D A [(a0, .inr (1, [.ref a1, .ref a2, .ref a3, .int md])), (a3, .inl (ka3, 270, .inl (upd bs ((im * 9) + i).toNatClampNeg (vp_nar .byte b))))] := hD
  obtain ⟨g_1, e_g_1⟩ : ∃ y, y = upd bs ((im * 9) + i).toNatClampNeg (vp_nar .byte b) := ⟨_, rfl⟩
  rw [← e_g_1] at hP hD
  exact W.vret hx hb hr (fun t ht hW => ⟨⟨g_1, rfl, fun h => by rw [e_g_1]; exact fitB_upd h _ _, by rw [ht]; exact hP, hD⟩, hS.F ht⟩) hS.2.2 dX0_setByte_12

set_option maxHeartbeats 4000000 in
set_option maxRecDepth 100000 in
theorem c_X0_isDigit (l : Launch) (dC : Nat → ClassId) (dI : Nat → Nat → Nat) (b : Int32)  : Met l yX0_isDigit wsX0_isDigit ({ frames := 0, cells := 0, slots := 0, locals := 0 }) (va_Pc [.int b] (fun U => va_P (dC, dI) vwCl [] U.heap ∧ va_K (dC, dI) vwCl [] U)) (va_Qi (fun (r : Int32) (_ : Unit) => True) (fun _ _ => True) (fun _ => False)) 0 0 (fun _ => False) := by
  refine Met.ofW (cc := cX0_isDigit) (maxL := 1) (ret := (some .boolean)) (by decide) rfl ?_
  intro p e s m args below meth c s₁ B hml hv
  obtain ⟨rfl, hP, hK⟩ := hv
  have hx := B.exec
  have hb := B.bytes
  have hr := B.returns
  have hts := atoms_spec (ws := wsX0_isDigit) B.pre
  have hown : s.vm.findClass RX0 = some m.cls := findClass_of_methodNamed B.named
  have hlocks := B.notSynchronized
  have hS : va_S (fun _ => False) s.heap s.heap [] := va_S.rf
  have hl := lv_entry ([.int b]) (n := 1) (Nat.le_of_ble_eq_true rfl)
  rw [lg_entry_eq]
  generalize (lg_sl ([.int b]) ++ List.replicate (1 - (lg_sl ([.int b])).length) Slot.unset).toArray = ls at hl ⊢
  have hl : lv_has ls 1 [(0, .int b)] := hl
  refine lv_iload_n hx hb dX0_isDigit_0 rfl (lv_at hl 0 rfl) ?_
  refine lv_bipush (v := 48) hx hb dX0_isDigit_1 (by decide) ?_
  refine lv_icmp_lt (tgt := 16) hx hb dX0_isDigit_3 (by decide) (fun c_3 => ?_) (fun c_3 => ?_)
  · refine lv_iconst (v := 0) hx hb dX0_isDigit_16 (by decide) ?_
    exact W.zret (v := 0) hx hb hr (by decide) (fun t ht hW => ⟨⟨0, (), rfl, trivial, trivial⟩, hS.F ht⟩) hS.2.2 dX0_isDigit_17
  · refine lv_iload_n hx hb dX0_isDigit_6 rfl (lv_at hl 0 rfl) ?_
    refine lv_bipush (v := 58) hx hb dX0_isDigit_7 (by decide) ?_
    refine lv_icmp_ge (tgt := 16) hx hb dX0_isDigit_9 (by decide) (fun c_9 => ?_) (fun c_9 => ?_)
    · refine lv_iconst (v := 0) hx hb dX0_isDigit_16 (by decide) ?_
      exact W.zret (v := 0) hx hb hr (by decide) (fun t ht hW => ⟨⟨0, (), rfl, trivial, trivial⟩, hS.F ht⟩) hS.2.2 dX0_isDigit_17
    · refine lv_iconst (v := 1) hx hb dX0_isDigit_12 (by decide) ?_
      refine lv_goto (tgt := 17) hx hb dX0_isDigit_13 (by decide) ?_
      exact W.zret (v := 1) hx hb hr (by decide) (fun t ht hW => ⟨⟨1, (), rfl, trivial, trivial⟩, hS.F ht⟩) hS.2.2 dX0_isDigit_17

set_option maxHeartbeats 4000000 in
set_option maxRecDepth 100000 in
theorem c_X0_isBad (l : Launch) (dC : Nat → ClassId) (dI : Nat → Nat → Nat) (a0 a1 a2 a3 : Nat) (ka1 ka2 ka3 : ClassId) (us ss bs : Nat → Int32) (md : Int32) (im : Int32) (him : vp_in im 30) (hs1 : 1 ≤ (ss im.toNatClampNeg).toInt) (hs9 : (ss im.toNatClampNeg).toInt ≤ 9) (hfb : fitB bs) : Met l yX0_isBad wsX0_isBad ({ frames := 1, cells := 0, slots := 0, locals := 22 }) (va_Pc [.ref a0, .int im] (fun U => va_P (dC, dI) vwCl [(a0, .inr (1, [.ref a1, .ref a2, .ref a3, .int md])), (a1, .inl (ka1, 30, .inl us)), (a2, .inl (ka2, 30, .inl ss)), (a3, .inl (ka3, 270, .inl bs))] U.heap ∧ va_K (dC, dI) vwCl [(ka1, .int), (ka2, .int), (ka3, .byte)] U)) (va_Qi (fun (r : Int32) (_ : Unit) => r = 0 ∨ r = 1) (fun _ _ => True) (fun _ => False)) 0 0 (fun _ => False) := by
  refine Met.ofW (cc := cX0_isBad) (maxL := 4) (ret := (some .boolean)) (by decide) rfl ?_
  intro p e s m args below meth c s₁ B hml hv
  obtain ⟨rfl, hP, hK⟩ := hv
  have hx := B.exec
  have hb := B.bytes
  have hr := B.returns
  have hts := atoms_spec (ws := wsX0_isBad) B.pre
  have hown : s.vm.findClass RX0 = some m.cls := findClass_of_methodNamed B.named
  have hlocks := B.notSynchronized
  have hS : va_S (fun _ => False) s.heap s.heap [] := va_S.rf
  have hl := lv_entry ([.ref a0, .int im]) (n := 4) (Nat.le_of_ble_eq_true rfl)
  rw [lg_entry_eq]
  generalize (lg_sl ([.ref a0, .int im]) ++ List.replicate (4 - (lg_sl ([.ref a0, .int im])).length) Slot.unset).toArray = ls at hl ⊢
  have hl : lv_has ls 4 [(0, .ref a0), (1, .int im)] := hl
  refine lv_aload_n hx hb dX0_isBad_0 rfl (lv_at hl 0 rfl) ?_
  refine va_get (D := (dC, dI)) (ci := 1) (v := .ref a1) (C := RX0) (T := TX0) (N := 4) hx hb hts (by decide +kernel) hown hK hP 0 rfl rfl 0 (by decide) (hts (.fieldLink RX0 11 "CobolDebugger$Items" "usages" "[I") (by decide +kernel)) (fun _ h9 => h9) rfl dX0_isBad_1 ?_
  refine lv_iload_n hx hb dX0_isBad_4 rfl (lv_at hl 1 rfl) ?_
  refine va_iald hx hb hK hP 1 0 rfl rfl (i := im) him dX0_isBad_5 ?_
  refine lv_iconst (v := 1) hx hb dX0_isBad_6 (by decide) ?_
  refine lv_icmp_ne (tgt := 12) hx hb dX0_isBad_7 (by decide) (fun c_7 => ?_) (fun c_7 => ?_)
  · refine lv_aload_n hx hb dX0_isBad_12 rfl (lv_at hl 0 rfl) ?_
    refine va_get (D := (dC, dI)) (ci := 1) (v := .ref a2) (C := RX0) (T := TX0) (N := 4) hx hb hts (by decide +kernel) hown hK hP 0 rfl rfl 1 (by decide) (hts (.fieldLink RX0 15 "CobolDebugger$Items" "sizes" "[I") (by decide +kernel)) (fun _ h9 => h9) rfl dX0_isBad_13 ?_
    refine lv_iload_n hx hb dX0_isBad_16 rfl (lv_at hl 1 rfl) ?_
    refine va_iald hx hb hK hP 2 1 rfl rfl (i := im) him dX0_isBad_17 ?_
    refine lv_iconst (v := 1) hx hb dX0_isBad_18 (by decide) ?_
    refine lv_isub hx hb dX0_isBad_19 ?_
    refine lv_topi (fun en e_en => ?_)
    refine lv_istore_n (lv' := [(2, .int en), (0, .ref a0), (1, .int im)]) hx hb dX0_isBad_20 rfl hl (by decide) rfl (fun ls hl => ?_)
    have hen : en.toInt = (ss im.toNatClampNeg).toInt - 1 := by rw [e_en, i_s1 (by omega)]
    refine lv_iconst (v := 0) hx hb dX0_isBad_21 (by decide) ?_
    refine lv_istore_n (lv' := [(3, .int 0), (2, .int en), (0, .ref a0), (1, .int im)]) hx hb dX0_isBad_22 rfl hl (by decide) rfl (fun ls hl => ?_)
    refine wl1 (μ := fun (i : Int32) => (en.toInt - i.toInt).toNat) (I := fun (i : Int32) (ls : Array Slot) (H : Heap) (locs : List Loc) => lv_has ls 4 [(0, .ref a0), (1, .int im), (2, .int en), (3, .int i)] ∧ va_P (dC, dI) vwCl [(a0, .inr (1, [.ref a1, .ref a2, .ref a3, .int md])), (a1, .inl (ka1, 30, .inl us)), (a2, .inl (ka2, 30, .inl ss)), (a3, .inl (ka3, 270, .inl bs))] H ∧ va_S (fun _ => False) s.heap H locs ∧ (0 ≤ i.toInt)) (fun i ls H locs hI ih => ?_) 0 ls _ _ ⟨lv_sub hl [2, 3, 1, 0] rfl, hP, hS, by decide⟩
    obtain ⟨hl, hP, hS, hi0⟩ := hI
    refine lv_iload_n hx hb dX0_isBad_23 rfl (lv_at hl 3 rfl) ?_
    refine lv_iload_n hx hb dX0_isBad_24 rfl (lv_at hl 2 rfl) ?_
    refine lv_icmp_ge (tgt := 48) hx hb dX0_isBad_25 (by decide) (fun c_25 => ?_) (fun c_25 => ?_)
    · refine lv_aload_n hx hb dX0_isBad_48 rfl (lv_at hl 0 rfl) ?_
      refine lv_iload_n hx hb dX0_isBad_49 rfl (lv_at hl 1 rfl) ?_
      refine lv_iload_n hx hb dX0_isBad_50 rfl (lv_at hl 2 rfl) ?_
      have hPc := hP.sub (ws' := [(a0, .inr (1, [.ref a1, .ref a2, .ref a3, .int md])), (a3, .inl (ka3, 270, .inl bs))]) [0, 3] rfl
      have hKc := hK.sub (tys' := [(ka3, .byte)]) [2] rfl
      refine va_calli (va_runV (As := [.int im, .int en]) (rest := []) ⟨hx, hb, hml, hown, hts⟩ (c_X0_byteAt l dC dI a0 a1 a2 a3 ka3 bs md im en (ix_9 him (by omega) (by omega)) (hfb)) (cwV 2 hts gX0_isBad_X0_byteAt rfl rfl rfl (by decide +kernel) ⟨Nat.le_of_ble_eq_true rfl, Nat.le_of_ble_eq_true rfl⟩) ⟨fun a U g mk q => by obtain ⟨q0, qP, qK⟩ := q; exact ⟨q0, qP, va_K.moved (u := U) (U := U.calling g mk a) (Vm.Alike.refl U.vm) qK⟩, va_recv hKc hPc (ci := 1) (q0 := 0) rfl rfl, fun U hU hW => ⟨rfl, by rw [hU]; exact hPc, va_K.moved hW.alike hKc⟩⟩ rfl rfl hl.1 rfl (lv_room (Nat.le_of_ble_eq_true rfl)) dX0_isBad_51 ⟨Nat.zero_le _, Nat.zero_le _⟩) hS (fun q _ h => h.elim) (fun q h => h.elim) (fun r_51 u t H1 locs ht hvm w_51 hB hz1 hk1 hS => ?_)
      try dsimp only at w_51
      have hP := rd_keep hP hk1
      clear hB hk1 hz1 ht hvm u t
      generalize H1 = H at hP hS ⊢
      refine lv_istore_n (lv' := [(3, .int r_51), (0, .ref a0), (1, .int im), (2, .int en)]) hx hb dX0_isBad_54 rfl hl (by decide) rfl (fun ls hl => ?_)
      refine lv_iload_n hx hb dX0_isBad_55 rfl (lv_at hl 0 rfl) ?_
      have hPc := hP.sub (ws' := []) [] rfl
      have hKc := hK.sub (tys' := []) [] rfl
      refine va_calli (va_runS (As := [.int r_51]) (rest := []) ⟨hx, hb, hml, hown, hts⟩ (c_X0_isDigit l dC dI r_51) (va_cwS 1 hts gX0_isBad_X0_isDigit rfl rfl rfl (by decide +kernel) ⟨Nat.le_of_ble_eq_true rfl, Nat.le_of_ble_eq_true rfl⟩) ⟨fun a U g mk q => by obtain ⟨q0, qP, qK⟩ := q; exact ⟨q0, qP, va_K.moved (u := U) (U := U.calling g mk a) (Vm.Alike.refl U.vm) qK⟩, fun U hU hW => ⟨rfl, by rw [hU]; exact hPc, va_K.moved hW.alike hKc⟩⟩ rfl rfl hl.1 rfl (lv_room (Nat.le_of_ble_eq_true rfl)) dX0_isBad_56 ⟨Nat.zero_le _, Nat.zero_le _⟩) hS (fun q _ h => h.elim) (fun q h => h.elim) (fun r_56 u t H1 locs ht hvm w_56 hB hz1 hk1 hS => ?_)
      try dsimp only at w_56
      have hP := rd_keep hP hk1
      clear hB hk1 hz1 ht hvm u t
      generalize H1 = H at hP hS ⊢
      refine lv_if_ne (tgt := 76) hx hb dX0_isBad_59 (by decide) (fun c_59 => ?_) (fun c_59 => ?_)
      · refine lv_iconst (v := 0) hx hb dX0_isBad_76 (by decide) ?_
        exact W.zret (v := 0) hx hb hr (by decide) (fun t ht hW => ⟨⟨0, (), rfl, Or.inl rfl, trivial⟩, hS.F ht⟩) hS.2.2 dX0_isBad_77
      · refine lv_iload_n hx hb dX0_isBad_62 rfl (lv_at hl 0 rfl) ?_
        refine lv_bipush (v := 64) hx hb dX0_isBad_63 (by decide) ?_
        refine lv_isub hx hb dX0_isBad_65 ?_
        have hPc := hP.sub (ws' := []) [] rfl
        have hKc := hK.sub (tys' := []) [] rfl
        refine va_calli (va_runS (As := [.int (r_51 - 64)]) (rest := []) ⟨hx, hb, hml, hown, hts⟩ (c_X0_isDigit l dC dI (r_51 - 64)) (va_cwS 1 hts gX0_isBad_X0_isDigit rfl rfl rfl (by decide +kernel) ⟨Nat.le_of_ble_eq_true rfl, Nat.le_of_ble_eq_true rfl⟩) ⟨fun a U g mk q => by obtain ⟨q0, qP, qK⟩ := q; exact ⟨q0, qP, va_K.moved (u := U) (U := U.calling g mk a) (Vm.Alike.refl U.vm) qK⟩, fun U hU hW => ⟨rfl, by rw [hU]; exact hPc, va_K.moved hW.alike hKc⟩⟩ rfl rfl hl.1 rfl (lv_room (Nat.le_of_ble_eq_true rfl)) dX0_isBad_66 ⟨Nat.zero_le _, Nat.zero_le _⟩) hS (fun q _ h => h.elim) (fun q h => h.elim) (fun r_66 u t H1 locs ht hvm w_66 hB hz1 hk1 hS => ?_)
        try dsimp only at w_66
        have hP := rd_keep hP hk1
        clear hB hk1 hz1 ht hvm u t
        generalize H1 = H at hP hS ⊢
        refine lv_if_ne (tgt := 76) hx hb dX0_isBad_69 (by decide) (fun c_69 => ?_) (fun c_69 => ?_)
        · refine lv_iconst (v := 0) hx hb dX0_isBad_76 (by decide) ?_
          exact W.zret (v := 0) hx hb hr (by decide) (fun t ht hW => ⟨⟨0, (), rfl, Or.inl rfl, trivial⟩, hS.F ht⟩) hS.2.2 dX0_isBad_77
        · refine lv_iconst (v := 1) hx hb dX0_isBad_72 (by decide) ?_
          refine lv_goto (tgt := 77) hx hb dX0_isBad_73 (by decide) ?_
          exact W.zret (v := 1) hx hb hr (by decide) (fun t ht hW => ⟨⟨1, (), rfl, Or.inr rfl, trivial⟩, hS.F ht⟩) hS.2.2 dX0_isBad_77
    · have hi9 := n_lt c_25
      refine lv_aload_n hx hb dX0_isBad_28 rfl (lv_at hl 0 rfl) ?_
      refine lv_iload_n hx hb dX0_isBad_29 rfl (lv_at hl 1 rfl) ?_
      refine lv_iload_n hx hb dX0_isBad_30 rfl (lv_at hl 3 rfl) ?_
      have hPc := hP.sub (ws' := [(a0, .inr (1, [.ref a1, .ref a2, .ref a3, .int md])), (a3, .inl (ka3, 270, .inl bs))]) [0, 3] rfl
      have hKc := hK.sub (tys' := [(ka3, .byte)]) [2] rfl
      refine va_calli (va_runV (As := [.int im, .int i]) (rest := []) ⟨hx, hb, hml, hown, hts⟩ (c_X0_byteAt l dC dI a0 a1 a2 a3 ka3 bs md im i (ix_9 him hi0 (by omega)) (hfb)) (cwV 2 hts gX0_isBad_X0_byteAt rfl rfl rfl (by decide +kernel) ⟨Nat.le_of_ble_eq_true rfl, Nat.le_of_ble_eq_true rfl⟩) ⟨fun a U g mk q => by obtain ⟨q0, qP, qK⟩ := q; exact ⟨q0, qP, va_K.moved (u := U) (U := U.calling g mk a) (Vm.Alike.refl U.vm) qK⟩, va_recv hKc hPc (ci := 1) (q0 := 0) rfl rfl, fun U hU hW => ⟨rfl, by rw [hU]; exact hPc, va_K.moved hW.alike hKc⟩⟩ rfl rfl hl.1 rfl (lv_room (Nat.le_of_ble_eq_true rfl)) dX0_isBad_31 ⟨Nat.zero_le _, Nat.zero_le _⟩) hS (fun q _ h => h.elim) (fun q h => h.elim) (fun r_31 u t H1 locs ht hvm w_31 hB hz1 hk1 hS => ?_)
      try dsimp only at w_31
      have hP := rd_keep hP hk1
      clear hB hk1 hz1 ht hvm u t
      generalize H1 = H at hP hS ⊢
      have hPc := hP.sub (ws' := []) [] rfl
      have hKc := hK.sub (tys' := []) [] rfl
      refine va_calli (va_runS (As := [.int r_31]) (rest := []) ⟨hx, hb, hml, hown, hts⟩ (c_X0_isDigit l dC dI r_31) (va_cwS 1 hts gX0_isBad_X0_isDigit rfl rfl rfl (by decide +kernel) ⟨Nat.le_of_ble_eq_true rfl, Nat.le_of_ble_eq_true rfl⟩) ⟨fun a U g mk q => by obtain ⟨q0, qP, qK⟩ := q; exact ⟨q0, qP, va_K.moved (u := U) (U := U.calling g mk a) (Vm.Alike.refl U.vm) qK⟩, fun U hU hW => ⟨rfl, by rw [hU]; exact hPc, va_K.moved hW.alike hKc⟩⟩ rfl rfl hl.1 rfl (lv_room (Nat.le_of_ble_eq_true rfl)) dX0_isBad_34 ⟨Nat.zero_le _, Nat.zero_le _⟩) hS (fun q _ h => h.elim) (fun q h => h.elim) (fun r_34 u t H1 locs ht hvm w_34 hB hz1 hk1 hS => ?_)
      try dsimp only at w_34
      have hP := rd_keep hP hk1
      clear hB hk1 hz1 ht hvm u t
      generalize H1 = H at hP hS ⊢
      refine lv_if_ne (tgt := 42) hx hb dX0_isBad_37 (by decide) (fun c_37 => ?_) (fun c_37 => ?_)
      · obtain ⟨i_1, e_i_1⟩ : ∃ y : Int32, y = i + 1 := ⟨_, rfl⟩
        refine lv_iinc (v := i_1) (lv' := [(3, .int i_1), (0, .ref a0), (1, .int im), (2, .int en)]) hx hb dX0_isBad_42 hl (k := 3) rfl (by rw [e_i_1]; rfl) (by decide) rfl (fun ls hl => ?_)
        refine lv_goto (tgt := 23) hx hb dX0_isBad_45 (by decide) ?_
        exact ih i_1 _ _ _ ⟨lv_sub hl [1, 2, 3, 0] rfl, hP, hS, by rw [e_i_1, i_p1 (by omega) (by omega)]; omega⟩ (by rw [e_i_1, i_p1 (by omega) (by omega)]; omega)
      · refine lv_iconst (v := 1) hx hb dX0_isBad_40 (by decide) ?_
        exact W.zret (v := 1) hx hb hr (by decide) (fun t ht hW => ⟨⟨1, (), rfl, Or.inr rfl, trivial⟩, hS.F ht⟩) hS.2.2 dX0_isBad_41
  · refine lv_iconst (v := 0) hx hb dX0_isBad_10 (by decide) ?_
    exact W.zret (v := 0) hx hb hr (by decide) (fun t ht hW => ⟨⟨0, (), rfl, Or.inl rfl, trivial⟩, hS.F ht⟩) hS.2.2 dX0_isBad_11

set_option maxHeartbeats 4000000 in
set_option maxRecDepth 100000 in
theorem c_X0_binary (l : Launch) (dC : Nat → ClassId) (dI : Nat → Nat → Nat) (a0 a1 a2 a3 : Nat) (ka2 ka3 : ClassId) (ss bs : Nat → Int32) (md : Int32) (im : Int32) (him : vp_in im 30) (hs1 : 1 ≤ (ss im.toNatClampNeg).toInt) (hs9 : (ss im.toNatClampNeg).toInt ≤ 9) (hfb : fitB bs) : Met l yX0_binary wsX0_binary ({ frames := 1, cells := 0, slots := 0, locals := 22 }) (va_Pc [.ref a0, .int im] (fun U => va_P (dC, dI) vwCl [(a0, .inr (1, [.ref a1, .ref a2, .ref a3, .int md])), (a2, .inl (ka2, 30, .inl ss)), (a3, .inl (ka3, 270, .inl bs))] U.heap ∧ va_K (dC, dI) vwCl [(ka2, .int), (ka3, .byte)] U)) (va_Ql (fun (r : Int64) (_ : Unit) => True) (fun _ _ => True) (fun _ => False)) 0 0 (fun _ => False) := by
  refine Met.ofW (cc := cX0_binary) (maxL := 5) (ret := (some .long)) (by decide) rfl ?_
  intro p e s m args below meth c s₁ B hml hv
  obtain ⟨rfl, hP, hK⟩ := hv
  have hx := B.exec
  have hb := B.bytes
  have hr := B.returns
  have hts := atoms_spec (ws := wsX0_binary) B.pre
  have hown : s.vm.findClass RX0 = some m.cls := findClass_of_methodNamed B.named
  have hlocks := B.notSynchronized
  have hS : va_S (fun _ => False) s.heap s.heap [] := va_S.rf
  have hl := lv_entry ([.ref a0, .int im]) (n := 5) (Nat.le_of_ble_eq_true rfl)
  rw [lg_entry_eq]
  generalize (lg_sl ([.ref a0, .int im]) ++ List.replicate (5 - (lg_sl ([.ref a0, .int im])).length) Slot.unset).toArray = ls at hl ⊢
  have hl : lv_has ls 5 [(0, .ref a0), (1, .int im)] := hl
  refine lv_aload_n hx hb dX0_binary_0 rfl (lv_at hl 0 rfl) ?_
  refine lv_iload_n hx hb dX0_binary_1 rfl (lv_at hl 1 rfl) ?_
  refine lv_iconst (v := 0) hx hb dX0_binary_2 (by decide) ?_
  have hPc := hP.sub (ws' := [(a0, .inr (1, [.ref a1, .ref a2, .ref a3, .int md])), (a3, .inl (ka3, 270, .inl bs))]) [0, 2] rfl
  have hKc := hK.sub (tys' := [(ka3, .byte)]) [1] rfl
  refine va_calli (va_runV (As := [.int im, .int 0]) (rest := []) ⟨hx, hb, hml, hown, hts⟩ (c_X0_byteAt l dC dI a0 a1 a2 a3 ka3 bs md im 0 (ix_9 him (by decide) (by decide)) (hfb)) (cwV 2 hts gX0_binary_X0_byteAt rfl rfl rfl (by decide +kernel) ⟨Nat.le_of_ble_eq_true rfl, Nat.le_of_ble_eq_true rfl⟩) ⟨fun a U g mk q => by obtain ⟨q0, qP, qK⟩ := q; exact ⟨q0, qP, va_K.moved (u := U) (U := U.calling g mk a) (Vm.Alike.refl U.vm) qK⟩, va_recv hKc hPc (ci := 1) (q0 := 0) rfl rfl, fun U hU hW => ⟨rfl, by rw [hU]; exact hPc, va_K.moved hW.alike hKc⟩⟩ rfl rfl hl.1 rfl (lv_room (Nat.le_of_ble_eq_true rfl)) dX0_binary_3 ⟨Nat.zero_le _, Nat.zero_le _⟩) hS (fun q _ h => h.elim) (fun q h => h.elim) (fun r_3 u t H1 locs ht hvm w_3 hB hz1 hk1 hS => ?_)
  try dsimp only at w_3
  have hP := rd_keep hP hk1
  clear hB hk1 hz1 ht hvm u t
  generalize H1 = H at hP hS ⊢
  refine lv_i2l hx hb dX0_binary_6 rfl ?_
  refine lv_lstore_n (lv' := [(2, .long r_3.toInt64), (0, .ref a0), (1, .int im)]) hx hb dX0_binary_7 rfl hl (by decide) rfl (fun ls hl => ?_)
  refine lv_iconst (v := 1) hx hb dX0_binary_8 (by decide) ?_
  refine lv_istore (lv' := [(4, .int 1), (2, .long r_3.toInt64), (0, .ref a0), (1, .int im)]) hx hb dX0_binary_9 hl (by decide) rfl (fun ls hl => ?_)
  refine wl2 (μ := fun (va : Int64) (i : Int32) => ((ss im.toNatClampNeg).toInt - i.toInt).toNat) (I := fun (va : Int64) (i : Int32) (ls : Array Slot) (H : Heap) (locs : List Loc) => lv_has ls 5 [(0, .ref a0), (1, .int im), (2, .long va), (4, .int i)] ∧ va_P (dC, dI) vwCl [(a0, .inr (1, [.ref a1, .ref a2, .ref a3, .int md])), (a2, .inl (ka2, 30, .inl ss)), (a3, .inl (ka3, 270, .inl bs))] H ∧ va_S (fun _ => False) s.heap H locs ∧ (0 ≤ i.toInt)) (fun va i ls H locs hI ih => ?_) r_3.toInt64 1 ls _ _ ⟨lv_sub hl [2, 3, 1, 0] rfl, hP, hS, by decide⟩
  obtain ⟨hl, hP, hS, hi0⟩ := hI
  refine lv_iload hx hb dX0_binary_11 (lv_at hl 3 rfl) ?_
  refine lv_aload_n hx hb dX0_binary_13 rfl (lv_at hl 0 rfl) ?_
  refine va_get (D := (dC, dI)) (ci := 1) (v := .ref a2) (C := RX0) (T := TX0) (N := 4) hx hb hts (by decide +kernel) hown hK hP 0 rfl rfl 1 (by decide) (hts (.fieldLink RX0 15 "CobolDebugger$Items" "sizes" "[I") (by decide +kernel)) (fun _ h9 => h9) rfl dX0_binary_14 ?_
  refine lv_iload_n hx hb dX0_binary_17 rfl (lv_at hl 1 rfl) ?_
  refine va_iald hx hb hK hP 1 0 rfl rfl (i := im) him dX0_binary_18 ?_
  refine lv_icmp_ge (tgt := 46) hx hb dX0_binary_19 (by decide) (fun c_19 => ?_) (fun c_19 => ?_)
  · refine lv_lload_n hx hb dX0_binary_46 rfl (lv_at hl 2 rfl) ?_
    exact W.lret (v := va) hx hb hr (fun t ht hW => ⟨⟨va, (), rfl, trivial, trivial⟩, hS.F ht⟩) hS.2.2 dX0_binary_47
  · have hi9 := n_lt c_19
    refine lv_lload_n hx hb dX0_binary_22 rfl (lv_at hl 2 rfl) ?_
    refine lv_bipush (v := 8) hx hb dX0_binary_23 (by decide) ?_
    refine lv_lshl hx hb dX0_binary_25 rfl ?_
    refine lv_aload_n hx hb dX0_binary_26 rfl (lv_at hl 0 rfl) ?_
    refine lv_iload_n hx hb dX0_binary_27 rfl (lv_at hl 1 rfl) ?_
    refine lv_iload hx hb dX0_binary_28 (lv_at hl 3 rfl) ?_
    have hPc := hP.sub (ws' := [(a0, .inr (1, [.ref a1, .ref a2, .ref a3, .int md])), (a3, .inl (ka3, 270, .inl bs))]) [0, 2] rfl
    have hKc := hK.sub (tys' := [(ka3, .byte)]) [1] rfl
    refine va_calli (va_runV (As := [.int im, .int i]) (rest := [.long (va <<< ((8 : Int32).toInt64 &&& 63))]) ⟨hx, hb, hml, hown, hts⟩ (c_X0_byteAt l dC dI a0 a1 a2 a3 ka3 bs md im i (ix_9 him (by omega) (by omega)) (hfb)) (cwV 2 hts gX0_binary_X0_byteAt rfl rfl rfl (by decide +kernel) ⟨Nat.le_of_ble_eq_true rfl, Nat.le_of_ble_eq_true rfl⟩) ⟨fun a U g mk q => by obtain ⟨q0, qP, qK⟩ := q; exact ⟨q0, qP, va_K.moved (u := U) (U := U.calling g mk a) (Vm.Alike.refl U.vm) qK⟩, va_recv hKc hPc (ci := 1) (q0 := 0) rfl rfl, fun U hU hW => ⟨rfl, by rw [hU]; exact hPc, va_K.moved hW.alike hKc⟩⟩ rfl rfl hl.1 rfl (lv_room (Nat.le_of_ble_eq_true rfl)) dX0_binary_30 ⟨Nat.zero_le _, Nat.zero_le _⟩) hS (fun q _ h => h.elim) (fun q h => h.elim) (fun r_30 u t H1 locs ht hvm w_30 hB hz1 hk1 hS => ?_)
    try dsimp only at w_30
    have hP := rd_keep hP hk1
    clear hB hk1 hz1 ht hvm u t
    generalize H1 = H at hP hS ⊢
    refine lv_sipush (v := 255) hx hb dX0_binary_33 (by decide) ?_
    refine lv_iand hx hb dX0_binary_36 ?_
    refine lv_i2l hx hb dX0_binary_37 rfl ?_
    refine lv_lor hx hb dX0_binary_38 ?_
    refine lv_lstore_n (lv' := [(2, .long ((va <<< ((8 : Int32).toInt64 &&& 63)) ||| ((r_30 &&& 255).toInt64))), (0, .ref a0), (1, .int im), (4, .int i)]) hx hb dX0_binary_39 rfl hl (by decide) rfl (fun ls hl => ?_)
    obtain ⟨i_1, e_i_1⟩ : ∃ y : Int32, y = i + 1 := ⟨_, rfl⟩
    refine lv_iinc (v := i_1) (lv' := [(4, .int i_1), (2, .long ((va <<< ((8 : Int32).toInt64 &&& 63)) ||| ((r_30 &&& 255).toInt64))), (0, .ref a0), (1, .int im)]) hx hb dX0_binary_40 hl (k := 3) rfl (by rw [e_i_1]; rfl) (by decide) rfl (fun ls hl => ?_)
    refine lv_goto (tgt := 11) hx hb dX0_binary_43 (by decide) ?_
    exact ih ((va <<< ((8 : Int32).toInt64 &&& 63)) ||| ((r_30 &&& 255).toInt64)) i_1 _ _ _ ⟨lv_sub hl [2, 3, 1, 0] rfl, hP, hS, by rw [e_i_1, i_p1 (by omega) (by omega)]; omega⟩ (by rw [e_i_1, i_p1 (by omega) (by omega)]; omega)

set_option maxHeartbeats 4000000 in
set_option maxRecDepth 100000 in
theorem c_X0_decimal (l : Launch) (dC : Nat → ClassId) (dI : Nat → Nat → Nat) (a0 a1 a2 a3 : Nat) (ka2 ka3 : ClassId) (ss bs : Nat → Int32) (md : Int32) (im : Int32) (him : vp_in im 30) (hs1 : 1 ≤ (ss im.toNatClampNeg).toInt) (hs9 : (ss im.toNatClampNeg).toInt ≤ 9) (hfb : fitB bs) : Met l yX0_decimal wsX0_decimal ({ frames := 1, cells := 0, slots := 0, locals := 22 }) (va_Pc [.ref a0, .int im] (fun U => va_P (dC, dI) vwCl [(a0, .inr (1, [.ref a1, .ref a2, .ref a3, .int md])), (a2, .inl (ka2, 30, .inl ss)), (a3, .inl (ka3, 270, .inl bs))] U.heap ∧ va_K (dC, dI) vwCl [(ka2, .int), (ka3, .byte)] U)) (va_Ql (fun (r : Int64) (_ : Unit) => True) (fun _ _ => True) (fun _ => False)) 0 0 (fun _ => False) := by
  refine Met.ofW (cc := cX0_decimal) (maxL := 5) (ret := (some .long)) (by decide) rfl ?_
  intro p e s m args below meth c s₁ B hml hv
  obtain ⟨rfl, hP, hK⟩ := hv
  have hx := B.exec
  have hb := B.bytes
  have hr := B.returns
  have hts := atoms_spec (ws := wsX0_decimal) B.pre
  have hown : s.vm.findClass RX0 = some m.cls := findClass_of_methodNamed B.named
  have hlocks := B.notSynchronized
  have hS : va_S (fun _ => False) s.heap s.heap [] := va_S.rf
  have hl := lv_entry ([.ref a0, .int im]) (n := 5) (Nat.le_of_ble_eq_true rfl)
  rw [lg_entry_eq]
  generalize (lg_sl ([.ref a0, .int im]) ++ List.replicate (5 - (lg_sl ([.ref a0, .int im])).length) Slot.unset).toArray = ls at hl ⊢
  have hl : lv_has ls 5 [(0, .ref a0), (1, .int im)] := hl
  refine lv_lconst (v := 0) hx hb dX0_decimal_0 (by decide) ?_
  refine lv_lstore_n (lv' := [(2, .long 0), (0, .ref a0), (1, .int im)]) hx hb dX0_decimal_1 rfl hl (by decide) rfl (fun ls hl => ?_)
  refine lv_iconst (v := 0) hx hb dX0_decimal_2 (by decide) ?_
  refine lv_istore (lv' := [(4, .int 0), (2, .long 0), (0, .ref a0), (1, .int im)]) hx hb dX0_decimal_3 hl (by decide) rfl (fun ls hl => ?_)
  refine wl2 (μ := fun (va : Int64) (i : Int32) => ((ss im.toNatClampNeg).toInt - i.toInt).toNat) (I := fun (va : Int64) (i : Int32) (ls : Array Slot) (H : Heap) (locs : List Loc) => lv_has ls 5 [(0, .ref a0), (1, .int im), (2, .long va), (4, .int i)] ∧ va_P (dC, dI) vwCl [(a0, .inr (1, [.ref a1, .ref a2, .ref a3, .int md])), (a2, .inl (ka2, 30, .inl ss)), (a3, .inl (ka3, 270, .inl bs))] H ∧ va_S (fun _ => False) s.heap H locs ∧ (0 ≤ i.toInt)) (fun va i ls H locs hI ih => ?_) 0 0 ls _ _ ⟨lv_sub hl [2, 3, 1, 0] rfl, hP, hS, by decide⟩
  obtain ⟨hl, hP, hS, hi0⟩ := hI
  refine lv_iload hx hb dX0_decimal_5 (lv_at hl 3 rfl) ?_
  refine lv_aload_n hx hb dX0_decimal_7 rfl (lv_at hl 0 rfl) ?_
  refine va_get (D := (dC, dI)) (ci := 1) (v := .ref a2) (C := RX0) (T := TX0) (N := 4) hx hb hts (by decide +kernel) hown hK hP 0 rfl rfl 1 (by decide) (hts (.fieldLink RX0 15 "CobolDebugger$Items" "sizes" "[I") (by decide +kernel)) (fun _ h9 => h9) rfl dX0_decimal_8 ?_
  refine lv_iload_n hx hb dX0_decimal_11 rfl (lv_at hl 1 rfl) ?_
  refine va_iald hx hb hK hP 1 0 rfl rfl (i := im) him dX0_decimal_12 ?_
  refine lv_icmp_ge (tgt := 41) hx hb dX0_decimal_13 (by decide) (fun c_13 => ?_) (fun c_13 => ?_)
  · refine lv_aload_n hx hb dX0_decimal_41 rfl (lv_at hl 0 rfl) ?_
    refine lv_iload_n hx hb dX0_decimal_42 rfl (lv_at hl 1 rfl) ?_
    refine lv_aload_n hx hb dX0_decimal_43 rfl (lv_at hl 0 rfl) ?_
    refine va_get (D := (dC, dI)) (ci := 1) (v := .ref a2) (C := RX0) (T := TX0) (N := 4) hx hb hts (by decide +kernel) hown hK hP 0 rfl rfl 1 (by decide) (hts (.fieldLink RX0 15 "CobolDebugger$Items" "sizes" "[I") (by decide +kernel)) (fun _ h9 => h9) rfl dX0_decimal_44 ?_
    refine lv_iload_n hx hb dX0_decimal_47 rfl (lv_at hl 1 rfl) ?_
    refine va_iald hx hb hK hP 1 0 rfl rfl (i := im) him dX0_decimal_48 ?_
    refine lv_iconst (v := 1) hx hb dX0_decimal_49 (by decide) ?_
    refine lv_isub hx hb dX0_decimal_50 ?_
    have hPc := hP.sub (ws' := [(a0, .inr (1, [.ref a1, .ref a2, .ref a3, .int md])), (a3, .inl (ka3, 270, .inl bs))]) [0, 2] rfl
    have hKc := hK.sub (tys' := [(ka3, .byte)]) [1] rfl
    refine va_calli (va_runV (As := [.int im, .int ((ss im.toNatClampNeg) - 1)]) (rest := []) ⟨hx, hb, hml, hown, hts⟩ (c_X0_byteAt l dC dI a0 a1 a2 a3 ka3 bs md im ((ss im.toNatClampNeg) - 1) (ix_9 him (by rw [i_s1 (by omega)]; omega) (by rw [i_s1 (by omega)]; omega)) (hfb)) (cwV 2 hts gX0_decimal_X0_byteAt rfl rfl rfl (by decide +kernel) ⟨Nat.le_of_ble_eq_true rfl, Nat.le_of_ble_eq_true rfl⟩) ⟨fun a U g mk q => by obtain ⟨q0, qP, qK⟩ := q; exact ⟨q0, qP, va_K.moved (u := U) (U := U.calling g mk a) (Vm.Alike.refl U.vm) qK⟩, va_recv hKc hPc (ci := 1) (q0 := 0) rfl rfl, fun U hU hW => ⟨rfl, by rw [hU]; exact hPc, va_K.moved hW.alike hKc⟩⟩ rfl rfl hl.1 rfl (lv_room (Nat.le_of_ble_eq_true rfl)) dX0_decimal_51 ⟨Nat.zero_le _, Nat.zero_le _⟩) hS (fun q _ h => h.elim) (fun q h => h.elim) (fun r_51 u t H1 locs ht hvm w_51 hB hz1 hk1 hS => ?_)
    try dsimp only at w_51
    have hP := rd_keep hP hk1
    clear hB hk1 hz1 ht hvm u t
    generalize H1 = H at hP hS ⊢
    refine lv_bipush (v := 112) hx hb dX0_decimal_54 (by decide) ?_
    refine lv_icmp_lt (tgt := 63) hx hb dX0_decimal_56 (by decide) (fun c_56 => ?_) (fun c_56 => ?_)
    · refine lv_iconst (v := 0) hx hb dX0_decimal_63 (by decide) ?_
      refine lv_istore (lv' := [(4, .int 0), (0, .ref a0), (1, .int im), (2, .long va)]) hx hb dX0_decimal_64 hl (by decide) rfl (fun ls hl => ?_)
      refine lv_iload hx hb dX0_decimal_66 (lv_at hl 0 rfl) ?_
      refine lv_if_eq (tgt := 79) hx hb dX0_decimal_68 (by decide) (fun c_68 => ?_) (fun c_68 => ?_)
      · refine lv_lload_n hx hb dX0_decimal_79 rfl (lv_at hl 3 rfl) ?_
        exact W.lret (v := va) hx hb hr (fun t ht hW => ⟨⟨va, (), rfl, trivial, trivial⟩, hS.F ht⟩) hS.2.2 dX0_decimal_80
      · exact absurd c_68 (by decide)
    · refine lv_iconst (v := 1) hx hb dX0_decimal_59 (by decide) ?_
      refine lv_goto (tgt := 64) hx hb dX0_decimal_60 (by decide) ?_
      refine lv_istore (lv' := [(4, .int 1), (0, .ref a0), (1, .int im), (2, .long va)]) hx hb dX0_decimal_64 hl (by decide) rfl (fun ls hl => ?_)
      refine lv_iload hx hb dX0_decimal_66 (lv_at hl 0 rfl) ?_
      refine lv_if_eq (tgt := 79) hx hb dX0_decimal_68 (by decide) (fun c_68 => ?_) (fun c_68 => ?_)
      · exact absurd c_68 (by decide)
      · refine lv_ldc2 (v := 64) hx hb hown (hts (.constantLong RX0 49 64) (by decide +kernel)) dX0_decimal_71 ?_
        refine lv_lload_n hx hb dX0_decimal_74 rfl (lv_at hl 3 rfl) ?_
        refine lv_lsub hx hb dX0_decimal_75 ?_
        refine lv_goto (tgt := 80) hx hb dX0_decimal_76 (by decide) ?_
        exact W.lret (v := 64 - va) hx hb hr (fun t ht hW => ⟨⟨(64 - va), (), rfl, trivial, trivial⟩, hS.F ht⟩) hS.2.2 dX0_decimal_80
  · have hi9 := n_lt c_13
    refine lv_lload_n hx hb dX0_decimal_16 rfl (lv_at hl 2 rfl) ?_
    refine lv_ldc2 (v := 10) hx hb hown (hts (.constantLong RX0 45 10) (by decide +kernel)) dX0_decimal_17 ?_
    refine lv_lmul hx hb dX0_decimal_20 ?_
    refine lv_aload_n hx hb dX0_decimal_21 rfl (lv_at hl 0 rfl) ?_
    refine lv_iload_n hx hb dX0_decimal_22 rfl (lv_at hl 1 rfl) ?_
    refine lv_iload hx hb dX0_decimal_23 (lv_at hl 3 rfl) ?_
    have hPc := hP.sub (ws' := [(a0, .inr (1, [.ref a1, .ref a2, .ref a3, .int md])), (a3, .inl (ka3, 270, .inl bs))]) [0, 2] rfl
    have hKc := hK.sub (tys' := [(ka3, .byte)]) [1] rfl
    refine va_calli (va_runV (As := [.int im, .int i]) (rest := [.long (va * 10)]) ⟨hx, hb, hml, hown, hts⟩ (c_X0_byteAt l dC dI a0 a1 a2 a3 ka3 bs md im i (ix_9 him hi0 (by omega)) (hfb)) (cwV 2 hts gX0_decimal_X0_byteAt rfl rfl rfl (by decide +kernel) ⟨Nat.le_of_ble_eq_true rfl, Nat.le_of_ble_eq_true rfl⟩) ⟨fun a U g mk q => by obtain ⟨q0, qP, qK⟩ := q; exact ⟨q0, qP, va_K.moved (u := U) (U := U.calling g mk a) (Vm.Alike.refl U.vm) qK⟩, va_recv hKc hPc (ci := 1) (q0 := 0) rfl rfl, fun U hU hW => ⟨rfl, by rw [hU]; exact hPc, va_K.moved hW.alike hKc⟩⟩ rfl rfl hl.1 rfl (lv_room (Nat.le_of_ble_eq_true rfl)) dX0_decimal_25 ⟨Nat.zero_le _, Nat.zero_le _⟩) hS (fun q _ h => h.elim) (fun q h => h.elim) (fun r_25 u t H1 locs ht hvm w_25 hB hz1 hk1 hS => ?_)
    try dsimp only at w_25
    have hP := rd_keep hP hk1
    clear hB hk1 hz1 ht hvm u t
    generalize H1 = H at hP hS ⊢
    refine lv_i2l hx hb dX0_decimal_28 rfl ?_
    refine lv_ladd hx hb dX0_decimal_29 ?_
    refine lv_ldc2 (v := 48) hx hb hown (hts (.constantLong RX0 47 48) (by decide +kernel)) dX0_decimal_30 ?_
    refine lv_lsub hx hb dX0_decimal_33 ?_
    refine lv_lstore_n (lv' := [(2, .long (((va * 10) + r_25.toInt64) - 48)), (0, .ref a0), (1, .int im), (4, .int i)]) hx hb dX0_decimal_34 rfl hl (by decide) rfl (fun ls hl => ?_)
    obtain ⟨i_1, e_i_1⟩ : ∃ y : Int32, y = i + 1 := ⟨_, rfl⟩
    refine lv_iinc (v := i_1) (lv' := [(4, .int i_1), (2, .long (((va * 10) + r_25.toInt64) - 48)), (0, .ref a0), (1, .int im)]) hx hb dX0_decimal_35 hl (k := 3) rfl (by rw [e_i_1]; rfl) (by decide) rfl (fun ls hl => ?_)
    refine lv_goto (tgt := 5) hx hb dX0_decimal_38 (by decide) ?_
    exact ih (((va * 10) + r_25.toInt64) - 48) i_1 _ _ _ ⟨lv_sub hl [2, 3, 1, 0] rfl, hP, hS, by rw [e_i_1, i_p1 (by omega) (by omega)]; omega⟩ (by rw [e_i_1, i_p1 (by omega) (by omega)]; omega)

set_option maxHeartbeats 4000000 in
set_option maxRecDepth 100000 in
theorem c_X0_says (l : Launch) (dC : Nat → ClassId) (dI : Nat → Nat → Nat) (a0 a1 a2 a3 : Nat) (ka1 ka2 ka3 : ClassId) (us ss bs : Nat → Int32) (md : Int32) (im : Int32) (him : vp_in im 30) (hs1 : 1 ≤ (ss im.toNatClampNeg).toInt) (hs9 : (ss im.toNatClampNeg).toInt ≤ 9) (hfb : fitB bs) : Met l yX0_says wsX0_says ({ frames := 2, cells := 0, slots := 0, locals := 46 }) (va_Pc [.ref a0, .int im] (fun U => va_P (dC, dI) vwCl [(a0, .inr (1, [.ref a1, .ref a2, .ref a3, .int md])), (a1, .inl (ka1, 30, .inl us)), (a2, .inl (ka2, 30, .inl ss)), (a3, .inl (ka3, 270, .inl bs))] U.heap ∧ va_K (dC, dI) vwCl [(ka1, .int), (ka2, .int), (ka3, .byte)] U)) (va_Ql (fun (r : Int64) (_ : Unit) => True) (fun _ _ => True) (fun _ => False)) 0 0 (fun _ => False) := by
  refine Met.ofW (cc := cX0_says) (maxL := 2) (ret := (some .long)) (by decide) rfl ?_
  intro p e s m args below meth c s₁ B hml hv
  obtain ⟨rfl, hP, hK⟩ := hv
  have hx := B.exec
  have hb := B.bytes
  have hr := B.returns
  have hts := atoms_spec (ws := wsX0_says) B.pre
  have hown : s.vm.findClass RX0 = some m.cls := findClass_of_methodNamed B.named
  have hlocks := B.notSynchronized
  have hS : va_S (fun _ => False) s.heap s.heap [] := va_S.rf
  have hl := lv_entry ([.ref a0, .int im]) (n := 2) (Nat.le_of_ble_eq_true rfl)
  rw [lg_entry_eq]
  generalize (lg_sl ([.ref a0, .int im]) ++ List.replicate (2 - (lg_sl ([.ref a0, .int im])).length) Slot.unset).toArray = ls at hl ⊢
  have hl : lv_has ls 2 [(0, .ref a0), (1, .int im)] := hl
  refine lv_aload_n hx hb dX0_says_0 rfl (lv_at hl 0 rfl) ?_
  refine va_get (D := (dC, dI)) (ci := 1) (v := .ref a1) (C := RX0) (T := TX0) (N := 4) hx hb hts (by decide +kernel) hown hK hP 0 rfl rfl 0 (by decide) (hts (.fieldLink RX0 11 "CobolDebugger$Items" "usages" "[I") (by decide +kernel)) (fun _ h9 => h9) rfl dX0_says_1 ?_
  refine lv_iload_n hx hb dX0_says_4 rfl (lv_at hl 1 rfl) ?_
  refine va_iald hx hb hK hP 1 0 rfl rfl (i := im) him dX0_says_5 ?_
  refine lv_iconst (v := 1) hx hb dX0_says_6 (by decide) ?_
  refine lv_icmp_ne (tgt := 18) hx hb dX0_says_7 (by decide) (fun c_7 => ?_) (fun c_7 => ?_)
  · refine lv_aload_n hx hb dX0_says_18 rfl (lv_at hl 0 rfl) ?_
    refine lv_iload_n hx hb dX0_says_19 rfl (lv_at hl 1 rfl) ?_
    have hPc := hP.sub (ws' := [(a0, .inr (1, [.ref a1, .ref a2, .ref a3, .int md])), (a2, .inl (ka2, 30, .inl ss)), (a3, .inl (ka3, 270, .inl bs))]) [0, 2, 3] rfl
    have hKc := hK.sub (tys' := [(ka2, .int), (ka3, .byte)]) [1, 2] rfl
    refine va_calll (va_runV (As := [.int im]) (rest := []) ⟨hx, hb, hml, hown, hts⟩ (c_X0_decimal l dC dI a0 a1 a2 a3 ka2 ka3 ss bs md im (him) (hs1) (hs9) (hfb)) (cwV 1 hts gX0_says_X0_decimal rfl rfl rfl (by decide +kernel) ⟨Nat.le_of_ble_eq_true rfl, Nat.le_of_ble_eq_true rfl⟩) ⟨fun a U g mk q => by obtain ⟨q0, qP, qK⟩ := q; exact ⟨q0, qP, va_K.moved (u := U) (U := U.calling g mk a) (Vm.Alike.refl U.vm) qK⟩, va_recv hKc hPc (ci := 1) (q0 := 0) rfl rfl, fun U hU hW => ⟨rfl, by rw [hU]; exact hPc, va_K.moved hW.alike hKc⟩⟩ rfl rfl hl.1 rfl (lv_room (Nat.le_of_ble_eq_true rfl)) dX0_says_20 ⟨Nat.zero_le _, Nat.zero_le _⟩) hS (fun q _ h => h.elim) (fun q h => h.elim) (fun r_20 u t H1 locs ht hvm w_20 hB hz1 hk1 hS => ?_)
    try dsimp only at w_20
    have hP := rd_keep hP hk1
    clear hB hk1 hz1 ht hvm u t
    generalize H1 = H at hP hS ⊢
    exact W.lret (v := r_20) hx hb hr (fun t ht hW => ⟨⟨r_20, (), rfl, trivial, trivial⟩, hS.F ht⟩) hS.2.2 dX0_says_23
  · refine lv_aload_n hx hb dX0_says_10 rfl (lv_at hl 0 rfl) ?_
    refine lv_iload_n hx hb dX0_says_11 rfl (lv_at hl 1 rfl) ?_
    have hPc := hP.sub (ws' := [(a0, .inr (1, [.ref a1, .ref a2, .ref a3, .int md])), (a2, .inl (ka2, 30, .inl ss)), (a3, .inl (ka3, 270, .inl bs))]) [0, 2, 3] rfl
    have hKc := hK.sub (tys' := [(ka2, .int), (ka3, .byte)]) [1, 2] rfl
    refine va_calll (va_runV (As := [.int im]) (rest := []) ⟨hx, hb, hml, hown, hts⟩ (c_X0_binary l dC dI a0 a1 a2 a3 ka2 ka3 ss bs md im (him) (hs1) (hs9) (hfb)) (cwV 1 hts gX0_says_X0_binary rfl rfl rfl (by decide +kernel) ⟨Nat.le_of_ble_eq_true rfl, Nat.le_of_ble_eq_true rfl⟩) ⟨fun a U g mk q => by obtain ⟨q0, qP, qK⟩ := q; exact ⟨q0, qP, va_K.moved (u := U) (U := U.calling g mk a) (Vm.Alike.refl U.vm) qK⟩, va_recv hKc hPc (ci := 1) (q0 := 0) rfl rfl, fun U hU hW => ⟨rfl, by rw [hU]; exact hPc, va_K.moved hW.alike hKc⟩⟩ rfl rfl hl.1 rfl (lv_room (Nat.le_of_ble_eq_true rfl)) dX0_says_12 ⟨Nat.zero_le _, Nat.zero_le _⟩) hS (fun q _ h => h.elim) (fun q h => h.elim) (fun r_12 u t H1 locs ht hvm w_12 hB hz1 hk1 hS => ?_)
    try dsimp only at w_12
    have hP := rd_keep hP hk1
    clear hB hk1 hz1 ht hvm u t
    generalize H1 = H at hP hS ⊢
    refine lv_goto (tgt := 23) hx hb dX0_says_15 (by decide) ?_
    exact W.lret (v := r_12) hx hb hr (fun t ht hW => ⟨⟨r_12, (), rfl, trivial, trivial⟩, hS.F ht⟩) hS.2.2 dX0_says_23

set_option maxHeartbeats 4000000 in
set_option maxRecDepth 100000 in
theorem c_X0_add (l : Launch) (dC : Nat → ClassId) (dI : Nat → Nat → Nat) (tT : Nat) (sz : Nat) (a0 a1 a2 a3 : Nat) (ka1 ka2 ka3 : ClassId) (us ss bs : Nat → Int32) (md : Int32) (im : Int32) (v : Int64) (him : vp_in im 30) (hs1 : 1 ≤ (ss im.toNatClampNeg).toInt) (hs9 : (ss im.toNatClampNeg).toInt ≤ 9) (hfb : fitB bs) : Met l yX0_add wsX0_add ({ frames := 3, cells := 0, slots := 0, locals := 79 }) (va_Pc [.ref a0, .int im, .long v] (fun U => U.heap.size = sz ∧ va_P (dC, dI) vwCl [(a0, .inr (1, [.ref a1, .ref a2, .ref a3, .int md])), (a1, .inl (ka1, 30, .inl us)), (a2, .inl (ka2, 30, .inl ss)), (a3, .inl (ka3, 270, .inl bs))] U.heap ∧ va_K (dC, dI) vwCl [(ka1, .int), (ka2, .int), (ka3, .byte)] U ∧ va_D (fun _ => True) [(a0, .inr (1, [.ref a1, .ref a2, .ref a3, .int md])), (a1, .inl (ka1, 30, .inl us)), (a2, .inl (ka2, 30, .inl ss)), (a3, .inl (ka3, 270, .inl bs))] ∧ tnW tT (va_A [(a0, .inr (1, [.ref a1, .ref a2, .ref a3, .int md])), (a1, .inl (ka1, 30, .inl us)), (a2, .inl (ka2, 30, .inl ss)), (a3, .inl (ka3, 270, .inl bs))] sz) U)) (va_Qi (fun (r : Int32) (u : Nat → Int32) => (r = 0 ∨ r = 1) ∧ (fitB bs → fitB u)) (fun (u : Nat → Int32) (t : State) => va_P (dC, dI) vwCl [(a0, .inr (1, [.ref a1, .ref a2, .ref a3, .int md])), (a1, .inl (ka1, 30, .inl us)), (a2, .inl (ka2, 30, .inl ss)), (a3, .inl (ka3, 270, .inl u))] t.heap ∧ va_D (va_A [(a0, .inr (1, [.ref a1, .ref a2, .ref a3, .int md])), (a1, .inl (ka1, 30, .inl us)), (a2, .inl (ka2, 30, .inl ss)), (a3, .inl (ka3, 270, .inl bs))] sz) [(a0, .inr (1, [.ref a1, .ref a2, .ref a3, .int md])), (a1, .inl (ka1, 30, .inl us)), (a2, .inl (ka2, 30, .inl ss)), (a3, .inl (ka3, 270, .inl u))]) (va_A [(a0, .inr (1, [.ref a1, .ref a2, .ref a3, .int md])), (a1, .inl (ka1, 30, .inl us)), (a2, .inl (ka2, 30, .inl ss)), (a3, .inl (ka3, 270, .inl bs))] sz)) 0 0 (va_A [(a0, .inr (1, [.ref a1, .ref a2, .ref a3, .int md])), (a1, .inl (ka1, 30, .inl us)), (a2, .inl (ka2, 30, .inl ss)), (a3, .inl (ka3, 270, .inl bs))] sz) := by
  refine Met.ofW (cc := cX0_add) (maxL := 9) (ret := (some .boolean)) (by decide) rfl ?_
  intro p e s m args below meth c s₁ B hml hv
  obtain ⟨rfl, hsz, hP, hK, hD0, hT⟩ := hv
  have hx := B.exec
  have hb := B.bytes
  have hr := B.returns
  have hts := atoms_spec (ws := wsX0_add) B.pre
  have hown : s.vm.findClass RX0 = some m.cls := findClass_of_methodNamed B.named
  have hlocks := B.notSynchronized
  subst hsz
  have hD := hD0.self (sz := s.heap.size)
  generalize hAe : va_A [(a0, .inr (1, [.ref a1, .ref a2, .ref a3, .int md])), (a1, .inl (ka1, 30, .inl us)), (a2, .inl (ka2, 30, .inl ss)), (a3, .inl (ka3, 270, .inl bs))] s.heap.size = A at hD hT ⊢
  have hA : ∀ q : Nat, s.heap.size ≤ q → A q := fun q h => by rw [← hAe]; exact Or.inr h
  have hS : va_S A s.heap s.heap [] := va_S.rf
  obtain ⟨hZ9, hT9⟩ := id hT
  have hl := lv_entry ([.ref a0, .int im, .long v]) (n := 9) (Nat.le_of_ble_eq_true rfl)
  rw [lg_entry_eq]
  generalize (lg_sl ([.ref a0, .int im, .long v]) ++ List.replicate (9 - (lg_sl ([.ref a0, .int im, .long v])).length) Slot.unset).toArray = ls at hl ⊢
  have hl : lv_has ls 9 [(0, .ref a0), (1, .int im), (2, .long v)] := hl
  refine lv_aload_n hx hb dX0_add_0 rfl (lv_at hl 0 rfl) ?_
  refine lv_iload_n hx hb dX0_add_1 rfl (lv_at hl 1 rfl) ?_
  have hPc := hP.sub (ws' := [(a0, .inr (1, [.ref a1, .ref a2, .ref a3, .int md])), (a1, .inl (ka1, 30, .inl us)), (a2, .inl (ka2, 30, .inl ss)), (a3, .inl (ka3, 270, .inl bs))]) [0, 1, 2, 3] rfl
  have hKc := hK.sub (tys' := [(ka1, .int), (ka2, .int), (ka3, .byte)]) [0, 1, 2] rfl
  refine va_calll (va_runV (As := [.int im]) (rest := []) ⟨hx, hb, hml, hown, hts⟩ (c_X0_says l dC dI a0 a1 a2 a3 ka1 ka2 ka3 us ss bs md im (him) (hs1) (hs9) (hfb)) (cwV 1 hts gX0_add_X0_says rfl rfl rfl (by decide +kernel) ⟨Nat.le_of_ble_eq_true rfl, Nat.le_of_ble_eq_true rfl⟩) ⟨fun a U g mk q => by obtain ⟨q0, qP, qK⟩ := q; exact ⟨q0, qP, va_K.moved (u := U) (U := U.calling g mk a) (Vm.Alike.refl U.vm) qK⟩, va_recv hKc hPc (ci := 1) (q0 := 0) rfl rfl, fun U hU hW => ⟨rfl, by rw [hU]; exact hPc, va_K.moved hW.alike hKc⟩⟩ rfl rfl hl.1 rfl (lv_room (Nat.le_of_ble_eq_true rfl)) dX0_add_2 ⟨Nat.zero_le _, Nat.zero_le _⟩) hS (fun q _ h => h.elim) (fun q h => h.elim) (fun r_2 u t H1 locs ht hvm w_2 hB hz1 hk1 hS => ?_)
  try dsimp only at w_2
  have hP := rd_keep hP hk1
  clear hB hk1 hz1 ht hvm u t
  generalize H1 = H at hP hS ⊢
  refine lv_lstore (lv' := [(4, .long r_2), (0, .ref a0), (1, .int im), (2, .long v)]) hx hb dX0_add_5 hl (by decide) rfl (fun ls hl => ?_)
  refine lv_lload hx hb dX0_add_7 (lv_at hl 0 rfl) ?_
  refine lv_lconst (v := 0) hx hb dX0_add_9 (by decide) ?_
  refine W.lcmp hx hb dX0_add_10 ?_
  refine lv_if_ge (tgt := 18) hx hb dX0_add_11 (by decide) (fun c_11 => ?_) (fun c_11 => ?_)
  · refine lv_iconst (v := 0) hx hb dX0_add_18 (by decide) ?_
    refine lv_lload_n hx hb dX0_add_19 rfl (lv_at hl 3 rfl) ?_
    refine lv_lconst (v := 0) hx hb dX0_add_20 (by decide) ?_
    refine W.lcmp hx hb dX0_add_21 ?_
    refine lv_if_ge (tgt := 29) hx hb dX0_add_22 (by decide) (fun c_22 => ?_) (fun c_22 => ?_)
    · refine lv_iconst (v := 0) hx hb dX0_add_29 (by decide) ?_
      refine lv_icmp_ne (tgt := 37) hx hb dX0_add_30 (by decide) (fun c_30 => ?_) (fun c_30 => ?_)
      · exact absurd c_30 (by decide)
      · refine lv_iconst (v := 1) hx hb dX0_add_33 (by decide) ?_
        refine lv_goto (tgt := 38) hx hb dX0_add_34 (by decide) ?_
        refine lv_istore (lv' := [(6, .int 1), (4, .long r_2), (0, .ref a0), (1, .int im), (2, .long v)]) hx hb dX0_add_38 hl (by decide) rfl (fun ls hl => ?_)
        refine lv_aload_n hx hb dX0_add_40 rfl (lv_at hl 2 rfl) ?_
        refine va_get (D := (dC, dI)) (ci := 1) (v := .ref a1) (C := RX0) (T := TX0) (N := 4) hx hb hts (by decide +kernel) hown hK hP 0 rfl rfl 0 (by decide) (hts (.fieldLink RX0 11 "CobolDebugger$Items" "usages" "[I") (by decide +kernel)) (fun _ h9 => h9) rfl dX0_add_41 ?_
        refine lv_iload_n hx hb dX0_add_44 rfl (lv_at hl 3 rfl) ?_
        refine va_iald hx hb hK hP 1 0 rfl rfl (i := im) him dX0_add_45 ?_
        refine lv_iconst (v := 1) hx hb dX0_add_46 (by decide) ?_
        refine lv_icmp_eq (tgt := 70) hx hb dX0_add_47 (by decide) (fun c_47 => ?_) (fun c_47 => ?_)
        · refine lv_lload_n hx hb dX0_add_70 rfl (lv_at hl 4 rfl) ?_
          refine lv_lstore (lv' := [(7, .long v), (6, .int 1), (4, .long r_2), (0, .ref a0), (1, .int im), (2, .long v)]) hx hb dX0_add_71 hl (by decide) rfl (fun ls hl => ?_)
          refine lv_aload_n hx hb dX0_add_73 rfl (lv_at hl 3 rfl) ?_
          refine lv_iload_n hx hb dX0_add_74 rfl (lv_at hl 4 rfl) ?_
          refine lv_lload hx hb dX0_add_75 (lv_at hl 2 rfl) ?_
          refine lv_lload hx hb dX0_add_77 (lv_at hl 0 rfl) ?_
          refine lv_ladd hx hb dX0_add_79 ?_
          have hPc := hP.sub (ws' := [(a0, .inr (1, [.ref a1, .ref a2, .ref a3, .int md])), (a1, .inl (ka1, 30, .inl us)), (a2, .inl (ka2, 30, .inl ss)), (a3, .inl (ka3, 270, .inl bs))]) [0, 1, 2, 3] rfl
          have hKc := hK.sub (tys' := [(ka1, .int), (ka2, .int), (ka3, .byte)]) [0, 1, 2] rfl
          have hDc := hD.sub (ws' := [(a0, .inr (1, [.ref a1, .ref a2, .ref a3, .int md])), (a1, .inl (ka1, 30, .inl us)), (a2, .inl (ka2, 30, .inl ss)), (a3, .inl (ka3, 270, .inl bs))]) [0, 1, 2, 3] (by decide) rfl
          have hFc := va_free (wc := [(a0, .inr (1, [.ref a1, .ref a2, .ref a3, .int md])), (a1, .inl (ka1, 30, .inl us)), (a2, .inl (ka2, 30, .inl ss)), (a3, .inl (ka3, 270, .inl bs))]) hD hS hA [0, 1, 2, 3] rfl
          refine va_calli (va_runV (As := [.int im, .long (r_2 + v)]) (rest := []) ⟨hx, hb, hml, hown, hts⟩ (c_X0_write l dC dI tT H.size a0 a1 a2 a3 ka1 ka2 ka3 us ss bs md im (r_2 + v) (him) (hs1) (hs9)) (cwV 2 hts gX0_add_X0_write rfl rfl rfl (by decide +kernel) ⟨Nat.le_of_ble_eq_true rfl, Nat.le_of_ble_eq_true rfl⟩) ⟨fun a U g mk q => by obtain ⟨q0, q1, qP, qK, qD, qT⟩ := q; exact ⟨q0, q1, qP, va_K.moved (u := U) (U := U.calling g mk a) (Vm.Alike.refl U.vm) qK, qD, tn_same qT⟩, va_recv hKc hPc (ci := 1) (q0 := 0) rfl rfl, fun U hU hW => ⟨rfl, by rw [hU], by rw [hU]; exact hPc, va_K.moved hW.alike hKc, hDc.weaken (fun _ _ _ _ => trivial), tn_in hW hU hS hFc hT⟩⟩ rfl rfl hl.1 rfl (lv_room (Nat.le_of_ble_eq_true rfl)) dX0_add_80 ⟨Nat.zero_le _, Nat.zero_le _⟩) hS (fun q _ h => hFc q h) (fun q h => hFc q h) (fun r_80 u t H1 locs ht hvm w_80 hB hz1 hk1 hS => ?_)
          try dsimp only at w_80
          obtain ⟨bs_80, rfl⟩ : ∃ z, z = u := ⟨_, rfl⟩
          obtain ⟨hP1, hD1⟩ := hB
          rw [ht] at hP1
          obtain ⟨hP, hD⟩ := va_join (wr := []) (w1 := [(a0, .inr (1, [.ref a1, .ref a2, .ref a3, .int md])), (a1, .inl (ka1, 30, .inl us)), (a2, .inl (ka2, 30, .inl ss)), (a3, .inl (ka3, 270, .inl bs_80))]) hP hD [0, 1, 2, 3] [] rfl rfl (by decide) (by decide) hk1 hFc hP1 hD1
          generalize H1 = H at hP hS ⊢
          have hP := hP.sub (ws' := [(a0, .inr (1, [.ref a1, .ref a2, .ref a3, .int md])), (a1, .inl (ka1, 30, .inl us)), (a2, .inl (ka2, 30, .inl ss)), (a3, .inl (ka3, 270, .inl bs_80))]) [0, 1, 2, 3] rfl
          have hD := hD.sub (ws' := [(a0, .inr (1, [.ref a1, .ref a2, .ref a3, .int md])), (a1, .inl (ka1, 30, .inl us)), (a2, .inl (ka2, 30, .inl ss)), (a3, .inl (ka3, 270, .inl bs_80))]) [0, 1, 2, 3] (by decide) rfl
          exact W.zret (v := r_80) hx hb hr (ch_nar w_80.1) (fun t ht hW => ⟨⟨r_80, bs_80, rfl, w_80, by rw [ht]; exact hP, hD⟩, hS.F ht⟩) hS.2.2 dX0_add_83
        · refine lv_iload hx hb dX0_add_50 (lv_at hl 0 rfl) ?_
          refine lv_if_eq (tgt := 70) hx hb dX0_add_52 (by decide) (fun c_52 => ?_) (fun c_52 => ?_)
          · exact absurd c_52 (by decide)
          · refine lv_lload_n hx hb dX0_add_55 rfl (lv_at hl 4 rfl) ?_
            refine va_gets hx hb hZ9 hS hown (hts (.fieldLink RX0 54 "CobolDebugger$Items" "TENS" "[J") (by decide +kernel)) (fun _ h9 => h9) dX0_add_56 ?_
            refine lv_aload_n hx hb dX0_add_59 rfl (lv_at hl 2 rfl) ?_
            refine va_get (D := (dC, dI)) (ci := 1) (v := .ref a2) (C := RX0) (T := TX0) (N := 4) hx hb hts (by decide +kernel) hown hK hP 0 rfl rfl 1 (by decide) (hts (.fieldLink RX0 15 "CobolDebugger$Items" "sizes" "[I") (by decide +kernel)) (fun _ h9 => h9) rfl dX0_add_60 ?_
            refine lv_iload_n hx hb dX0_add_63 rfl (lv_at hl 3 rfl) ?_
            refine va_iald hx hb hK hP 2 1 rfl rfl (i := im) him dX0_add_64 ?_
            refine va_tl hx hb hT9 hS (ix_r (by omega) (by omega)) (v := .long (tn_v (ss im.toNatClampNeg).toNatClampNeg)) rfl dX0_add_65 ?_
            refine lv_lrem hx hb dX0_add_66 (tn_ne _) ?_
            refine lv_goto (tgt := 71) hx hb dX0_add_67 (by decide) ?_
            refine lv_lstore (lv' := [(7, .long (v - v / (tn_v (ss im.toNatClampNeg).toNatClampNeg) * (tn_v (ss im.toNatClampNeg).toNatClampNeg))), (6, .int 1), (4, .long r_2), (0, .ref a0), (1, .int im), (2, .long v)]) hx hb dX0_add_71 hl (by decide) rfl (fun ls hl => ?_)
            refine lv_aload_n hx hb dX0_add_73 rfl (lv_at hl 3 rfl) ?_
            refine lv_iload_n hx hb dX0_add_74 rfl (lv_at hl 4 rfl) ?_
            refine lv_lload hx hb dX0_add_75 (lv_at hl 2 rfl) ?_
            refine lv_lload hx hb dX0_add_77 (lv_at hl 0 rfl) ?_
            refine lv_ladd hx hb dX0_add_79 ?_
            have hPc := hP.sub (ws' := [(a0, .inr (1, [.ref a1, .ref a2, .ref a3, .int md])), (a1, .inl (ka1, 30, .inl us)), (a2, .inl (ka2, 30, .inl ss)), (a3, .inl (ka3, 270, .inl bs))]) [0, 1, 2, 3] rfl
            have hKc := hK.sub (tys' := [(ka1, .int), (ka2, .int), (ka3, .byte)]) [0, 1, 2] rfl
            have hDc := hD.sub (ws' := [(a0, .inr (1, [.ref a1, .ref a2, .ref a3, .int md])), (a1, .inl (ka1, 30, .inl us)), (a2, .inl (ka2, 30, .inl ss)), (a3, .inl (ka3, 270, .inl bs))]) [0, 1, 2, 3] (by decide) rfl
            have hFc := va_free (wc := [(a0, .inr (1, [.ref a1, .ref a2, .ref a3, .int md])), (a1, .inl (ka1, 30, .inl us)), (a2, .inl (ka2, 30, .inl ss)), (a3, .inl (ka3, 270, .inl bs))]) hD hS hA [0, 1, 2, 3] rfl
            refine va_calli (va_runV (As := [.int im, .long (r_2 + (v - v / (tn_v (ss im.toNatClampNeg).toNatClampNeg) * (tn_v (ss im.toNatClampNeg).toNatClampNeg)))]) (rest := []) ⟨hx, hb, hml, hown, hts⟩ (c_X0_write l dC dI tT H.size a0 a1 a2 a3 ka1 ka2 ka3 us ss bs md im (r_2 + (v - v / (tn_v (ss im.toNatClampNeg).toNatClampNeg) * (tn_v (ss im.toNatClampNeg).toNatClampNeg))) (him) (hs1) (hs9)) (cwV 2 hts gX0_add_X0_write rfl rfl rfl (by decide +kernel) ⟨Nat.le_of_ble_eq_true rfl, Nat.le_of_ble_eq_true rfl⟩) ⟨fun a U g mk q => by obtain ⟨q0, q1, qP, qK, qD, qT⟩ := q; exact ⟨q0, q1, qP, va_K.moved (u := U) (U := U.calling g mk a) (Vm.Alike.refl U.vm) qK, qD, tn_same qT⟩, va_recv hKc hPc (ci := 1) (q0 := 0) rfl rfl, fun U hU hW => ⟨rfl, by rw [hU], by rw [hU]; exact hPc, va_K.moved hW.alike hKc, hDc.weaken (fun _ _ _ _ => trivial), tn_in hW hU hS hFc hT⟩⟩ rfl rfl hl.1 rfl (lv_room (Nat.le_of_ble_eq_true rfl)) dX0_add_80 ⟨Nat.zero_le _, Nat.zero_le _⟩) hS (fun q _ h => hFc q h) (fun q h => hFc q h) (fun r_80 u t H1 locs ht hvm w_80 hB hz1 hk1 hS => ?_)
            try dsimp only at w_80
            obtain ⟨bs_80, rfl⟩ : ∃ z, z = u := ⟨_, rfl⟩
            obtain ⟨hP1, hD1⟩ := hB
            rw [ht] at hP1
            obtain ⟨hP, hD⟩ := va_join (wr := []) (w1 := [(a0, .inr (1, [.ref a1, .ref a2, .ref a3, .int md])), (a1, .inl (ka1, 30, .inl us)), (a2, .inl (ka2, 30, .inl ss)), (a3, .inl (ka3, 270, .inl bs_80))]) hP hD [0, 1, 2, 3] [] rfl rfl (by decide) (by decide) hk1 hFc hP1 hD1
            generalize H1 = H at hP hS ⊢
            have hP := hP.sub (ws' := [(a0, .inr (1, [.ref a1, .ref a2, .ref a3, .int md])), (a1, .inl (ka1, 30, .inl us)), (a2, .inl (ka2, 30, .inl ss)), (a3, .inl (ka3, 270, .inl bs_80))]) [0, 1, 2, 3] rfl
            have hD := hD.sub (ws' := [(a0, .inr (1, [.ref a1, .ref a2, .ref a3, .int md])), (a1, .inl (ka1, 30, .inl us)), (a2, .inl (ka2, 30, .inl ss)), (a3, .inl (ka3, 270, .inl bs_80))]) [0, 1, 2, 3] (by decide) rfl
            exact W.zret (v := r_80) hx hb hr (ch_nar w_80.1) (fun t ht hW => ⟨⟨r_80, bs_80, rfl, w_80, by rw [ht]; exact hP, hD⟩, hS.F ht⟩) hS.2.2 dX0_add_83
    · refine lv_iconst (v := 1) hx hb dX0_add_25 (by decide) ?_
      refine lv_goto (tgt := 30) hx hb dX0_add_26 (by decide) ?_
      refine lv_icmp_ne (tgt := 37) hx hb dX0_add_30 (by decide) (fun c_30 => ?_) (fun c_30 => ?_)
      · refine lv_iconst (v := 0) hx hb dX0_add_37 (by decide) ?_
        refine lv_istore (lv' := [(6, .int 0), (4, .long r_2), (0, .ref a0), (1, .int im), (2, .long v)]) hx hb dX0_add_38 hl (by decide) rfl (fun ls hl => ?_)
        refine lv_aload_n hx hb dX0_add_40 rfl (lv_at hl 2 rfl) ?_
        refine va_get (D := (dC, dI)) (ci := 1) (v := .ref a1) (C := RX0) (T := TX0) (N := 4) hx hb hts (by decide +kernel) hown hK hP 0 rfl rfl 0 (by decide) (hts (.fieldLink RX0 11 "CobolDebugger$Items" "usages" "[I") (by decide +kernel)) (fun _ h9 => h9) rfl dX0_add_41 ?_
        refine lv_iload_n hx hb dX0_add_44 rfl (lv_at hl 3 rfl) ?_
        refine va_iald hx hb hK hP 1 0 rfl rfl (i := im) him dX0_add_45 ?_
        refine lv_iconst (v := 1) hx hb dX0_add_46 (by decide) ?_
        refine lv_icmp_eq (tgt := 70) hx hb dX0_add_47 (by decide) (fun c_47 => ?_) (fun c_47 => ?_)
        · refine lv_lload_n hx hb dX0_add_70 rfl (lv_at hl 4 rfl) ?_
          refine lv_lstore (lv' := [(7, .long v), (6, .int 0), (4, .long r_2), (0, .ref a0), (1, .int im), (2, .long v)]) hx hb dX0_add_71 hl (by decide) rfl (fun ls hl => ?_)
          refine lv_aload_n hx hb dX0_add_73 rfl (lv_at hl 3 rfl) ?_
          refine lv_iload_n hx hb dX0_add_74 rfl (lv_at hl 4 rfl) ?_
          refine lv_lload hx hb dX0_add_75 (lv_at hl 2 rfl) ?_
          refine lv_lload hx hb dX0_add_77 (lv_at hl 0 rfl) ?_
          refine lv_ladd hx hb dX0_add_79 ?_
          have hPc := hP.sub (ws' := [(a0, .inr (1, [.ref a1, .ref a2, .ref a3, .int md])), (a1, .inl (ka1, 30, .inl us)), (a2, .inl (ka2, 30, .inl ss)), (a3, .inl (ka3, 270, .inl bs))]) [0, 1, 2, 3] rfl
          have hKc := hK.sub (tys' := [(ka1, .int), (ka2, .int), (ka3, .byte)]) [0, 1, 2] rfl
          have hDc := hD.sub (ws' := [(a0, .inr (1, [.ref a1, .ref a2, .ref a3, .int md])), (a1, .inl (ka1, 30, .inl us)), (a2, .inl (ka2, 30, .inl ss)), (a3, .inl (ka3, 270, .inl bs))]) [0, 1, 2, 3] (by decide) rfl
          have hFc := va_free (wc := [(a0, .inr (1, [.ref a1, .ref a2, .ref a3, .int md])), (a1, .inl (ka1, 30, .inl us)), (a2, .inl (ka2, 30, .inl ss)), (a3, .inl (ka3, 270, .inl bs))]) hD hS hA [0, 1, 2, 3] rfl
          refine va_calli (va_runV (As := [.int im, .long (r_2 + v)]) (rest := []) ⟨hx, hb, hml, hown, hts⟩ (c_X0_write l dC dI tT H.size a0 a1 a2 a3 ka1 ka2 ka3 us ss bs md im (r_2 + v) (him) (hs1) (hs9)) (cwV 2 hts gX0_add_X0_write rfl rfl rfl (by decide +kernel) ⟨Nat.le_of_ble_eq_true rfl, Nat.le_of_ble_eq_true rfl⟩) ⟨fun a U g mk q => by obtain ⟨q0, q1, qP, qK, qD, qT⟩ := q; exact ⟨q0, q1, qP, va_K.moved (u := U) (U := U.calling g mk a) (Vm.Alike.refl U.vm) qK, qD, tn_same qT⟩, va_recv hKc hPc (ci := 1) (q0 := 0) rfl rfl, fun U hU hW => ⟨rfl, by rw [hU], by rw [hU]; exact hPc, va_K.moved hW.alike hKc, hDc.weaken (fun _ _ _ _ => trivial), tn_in hW hU hS hFc hT⟩⟩ rfl rfl hl.1 rfl (lv_room (Nat.le_of_ble_eq_true rfl)) dX0_add_80 ⟨Nat.zero_le _, Nat.zero_le _⟩) hS (fun q _ h => hFc q h) (fun q h => hFc q h) (fun r_80 u t H1 locs ht hvm w_80 hB hz1 hk1 hS => ?_)
          try dsimp only at w_80
          obtain ⟨bs_80, rfl⟩ : ∃ z, z = u := ⟨_, rfl⟩
          obtain ⟨hP1, hD1⟩ := hB
          rw [ht] at hP1
          obtain ⟨hP, hD⟩ := va_join (wr := []) (w1 := [(a0, .inr (1, [.ref a1, .ref a2, .ref a3, .int md])), (a1, .inl (ka1, 30, .inl us)), (a2, .inl (ka2, 30, .inl ss)), (a3, .inl (ka3, 270, .inl bs_80))]) hP hD [0, 1, 2, 3] [] rfl rfl (by decide) (by decide) hk1 hFc hP1 hD1
          generalize H1 = H at hP hS ⊢
          have hP := hP.sub (ws' := [(a0, .inr (1, [.ref a1, .ref a2, .ref a3, .int md])), (a1, .inl (ka1, 30, .inl us)), (a2, .inl (ka2, 30, .inl ss)), (a3, .inl (ka3, 270, .inl bs_80))]) [0, 1, 2, 3] rfl
          have hD := hD.sub (ws' := [(a0, .inr (1, [.ref a1, .ref a2, .ref a3, .int md])), (a1, .inl (ka1, 30, .inl us)), (a2, .inl (ka2, 30, .inl ss)), (a3, .inl (ka3, 270, .inl bs_80))]) [0, 1, 2, 3] (by decide) rfl
          exact W.zret (v := r_80) hx hb hr (ch_nar w_80.1) (fun t ht hW => ⟨⟨r_80, bs_80, rfl, w_80, by rw [ht]; exact hP, hD⟩, hS.F ht⟩) hS.2.2 dX0_add_83
        · refine lv_iload hx hb dX0_add_50 (lv_at hl 0 rfl) ?_
          refine lv_if_eq (tgt := 70) hx hb dX0_add_52 (by decide) (fun c_52 => ?_) (fun c_52 => ?_)
          · refine lv_lload_n hx hb dX0_add_70 rfl (lv_at hl 4 rfl) ?_
            refine lv_lstore (lv' := [(7, .long v), (6, .int 0), (4, .long r_2), (0, .ref a0), (1, .int im), (2, .long v)]) hx hb dX0_add_71 hl (by decide) rfl (fun ls hl => ?_)
            refine lv_aload_n hx hb dX0_add_73 rfl (lv_at hl 3 rfl) ?_
            refine lv_iload_n hx hb dX0_add_74 rfl (lv_at hl 4 rfl) ?_
            refine lv_lload hx hb dX0_add_75 (lv_at hl 2 rfl) ?_
            refine lv_lload hx hb dX0_add_77 (lv_at hl 0 rfl) ?_
            refine lv_ladd hx hb dX0_add_79 ?_
            have hPc := hP.sub (ws' := [(a0, .inr (1, [.ref a1, .ref a2, .ref a3, .int md])), (a1, .inl (ka1, 30, .inl us)), (a2, .inl (ka2, 30, .inl ss)), (a3, .inl (ka3, 270, .inl bs))]) [0, 1, 2, 3] rfl
            have hKc := hK.sub (tys' := [(ka1, .int), (ka2, .int), (ka3, .byte)]) [0, 1, 2] rfl
            have hDc := hD.sub (ws' := [(a0, .inr (1, [.ref a1, .ref a2, .ref a3, .int md])), (a1, .inl (ka1, 30, .inl us)), (a2, .inl (ka2, 30, .inl ss)), (a3, .inl (ka3, 270, .inl bs))]) [0, 1, 2, 3] (by decide) rfl
            have hFc := va_free (wc := [(a0, .inr (1, [.ref a1, .ref a2, .ref a3, .int md])), (a1, .inl (ka1, 30, .inl us)), (a2, .inl (ka2, 30, .inl ss)), (a3, .inl (ka3, 270, .inl bs))]) hD hS hA [0, 1, 2, 3] rfl
            refine va_calli (va_runV (As := [.int im, .long (r_2 + v)]) (rest := []) ⟨hx, hb, hml, hown, hts⟩ (c_X0_write l dC dI tT H.size a0 a1 a2 a3 ka1 ka2 ka3 us ss bs md im (r_2 + v) (him) (hs1) (hs9)) (cwV 2 hts gX0_add_X0_write rfl rfl rfl (by decide +kernel) ⟨Nat.le_of_ble_eq_true rfl, Nat.le_of_ble_eq_true rfl⟩) ⟨fun a U g mk q => by obtain ⟨q0, q1, qP, qK, qD, qT⟩ := q; exact ⟨q0, q1, qP, va_K.moved (u := U) (U := U.calling g mk a) (Vm.Alike.refl U.vm) qK, qD, tn_same qT⟩, va_recv hKc hPc (ci := 1) (q0 := 0) rfl rfl, fun U hU hW => ⟨rfl, by rw [hU], by rw [hU]; exact hPc, va_K.moved hW.alike hKc, hDc.weaken (fun _ _ _ _ => trivial), tn_in hW hU hS hFc hT⟩⟩ rfl rfl hl.1 rfl (lv_room (Nat.le_of_ble_eq_true rfl)) dX0_add_80 ⟨Nat.zero_le _, Nat.zero_le _⟩) hS (fun q _ h => hFc q h) (fun q h => hFc q h) (fun r_80 u t H1 locs ht hvm w_80 hB hz1 hk1 hS => ?_)
            try dsimp only at w_80
            obtain ⟨bs_80, rfl⟩ : ∃ z, z = u := ⟨_, rfl⟩
            obtain ⟨hP1, hD1⟩ := hB
            rw [ht] at hP1
            obtain ⟨hP, hD⟩ := va_join (wr := []) (w1 := [(a0, .inr (1, [.ref a1, .ref a2, .ref a3, .int md])), (a1, .inl (ka1, 30, .inl us)), (a2, .inl (ka2, 30, .inl ss)), (a3, .inl (ka3, 270, .inl bs_80))]) hP hD [0, 1, 2, 3] [] rfl rfl (by decide) (by decide) hk1 hFc hP1 hD1
            generalize H1 = H at hP hS ⊢
            have hP := hP.sub (ws' := [(a0, .inr (1, [.ref a1, .ref a2, .ref a3, .int md])), (a1, .inl (ka1, 30, .inl us)), (a2, .inl (ka2, 30, .inl ss)), (a3, .inl (ka3, 270, .inl bs_80))]) [0, 1, 2, 3] rfl
            have hD := hD.sub (ws' := [(a0, .inr (1, [.ref a1, .ref a2, .ref a3, .int md])), (a1, .inl (ka1, 30, .inl us)), (a2, .inl (ka2, 30, .inl ss)), (a3, .inl (ka3, 270, .inl bs_80))]) [0, 1, 2, 3] (by decide) rfl
            exact W.zret (v := r_80) hx hb hr (ch_nar w_80.1) (fun t ht hW => ⟨⟨r_80, bs_80, rfl, w_80, by rw [ht]; exact hP, hD⟩, hS.F ht⟩) hS.2.2 dX0_add_83
          · exact absurd c_52 (by decide)
      · exact absurd c_30 (by decide)
  · refine lv_iconst (v := 1) hx hb dX0_add_14 (by decide) ?_
    refine lv_goto (tgt := 19) hx hb dX0_add_15 (by decide) ?_
    refine lv_lload_n hx hb dX0_add_19 rfl (lv_at hl 3 rfl) ?_
    refine lv_lconst (v := 0) hx hb dX0_add_20 (by decide) ?_
    refine W.lcmp hx hb dX0_add_21 ?_
    refine lv_if_ge (tgt := 29) hx hb dX0_add_22 (by decide) (fun c_22 => ?_) (fun c_22 => ?_)
    · refine lv_iconst (v := 0) hx hb dX0_add_29 (by decide) ?_
      refine lv_icmp_ne (tgt := 37) hx hb dX0_add_30 (by decide) (fun c_30 => ?_) (fun c_30 => ?_)
      · refine lv_iconst (v := 0) hx hb dX0_add_37 (by decide) ?_
        refine lv_istore (lv' := [(6, .int 0), (4, .long r_2), (0, .ref a0), (1, .int im), (2, .long v)]) hx hb dX0_add_38 hl (by decide) rfl (fun ls hl => ?_)
        refine lv_aload_n hx hb dX0_add_40 rfl (lv_at hl 2 rfl) ?_
        refine va_get (D := (dC, dI)) (ci := 1) (v := .ref a1) (C := RX0) (T := TX0) (N := 4) hx hb hts (by decide +kernel) hown hK hP 0 rfl rfl 0 (by decide) (hts (.fieldLink RX0 11 "CobolDebugger$Items" "usages" "[I") (by decide +kernel)) (fun _ h9 => h9) rfl dX0_add_41 ?_
        refine lv_iload_n hx hb dX0_add_44 rfl (lv_at hl 3 rfl) ?_
        refine va_iald hx hb hK hP 1 0 rfl rfl (i := im) him dX0_add_45 ?_
        refine lv_iconst (v := 1) hx hb dX0_add_46 (by decide) ?_
        refine lv_icmp_eq (tgt := 70) hx hb dX0_add_47 (by decide) (fun c_47 => ?_) (fun c_47 => ?_)
        · refine lv_lload_n hx hb dX0_add_70 rfl (lv_at hl 4 rfl) ?_
          refine lv_lstore (lv' := [(7, .long v), (6, .int 0), (4, .long r_2), (0, .ref a0), (1, .int im), (2, .long v)]) hx hb dX0_add_71 hl (by decide) rfl (fun ls hl => ?_)
          refine lv_aload_n hx hb dX0_add_73 rfl (lv_at hl 3 rfl) ?_
          refine lv_iload_n hx hb dX0_add_74 rfl (lv_at hl 4 rfl) ?_
          refine lv_lload hx hb dX0_add_75 (lv_at hl 2 rfl) ?_
          refine lv_lload hx hb dX0_add_77 (lv_at hl 0 rfl) ?_
          refine lv_ladd hx hb dX0_add_79 ?_
          have hPc := hP.sub (ws' := [(a0, .inr (1, [.ref a1, .ref a2, .ref a3, .int md])), (a1, .inl (ka1, 30, .inl us)), (a2, .inl (ka2, 30, .inl ss)), (a3, .inl (ka3, 270, .inl bs))]) [0, 1, 2, 3] rfl
          have hKc := hK.sub (tys' := [(ka1, .int), (ka2, .int), (ka3, .byte)]) [0, 1, 2] rfl
          have hDc := hD.sub (ws' := [(a0, .inr (1, [.ref a1, .ref a2, .ref a3, .int md])), (a1, .inl (ka1, 30, .inl us)), (a2, .inl (ka2, 30, .inl ss)), (a3, .inl (ka3, 270, .inl bs))]) [0, 1, 2, 3] (by decide) rfl
          have hFc := va_free (wc := [(a0, .inr (1, [.ref a1, .ref a2, .ref a3, .int md])), (a1, .inl (ka1, 30, .inl us)), (a2, .inl (ka2, 30, .inl ss)), (a3, .inl (ka3, 270, .inl bs))]) hD hS hA [0, 1, 2, 3] rfl
          refine va_calli (va_runV (As := [.int im, .long (r_2 + v)]) (rest := []) ⟨hx, hb, hml, hown, hts⟩ (c_X0_write l dC dI tT H.size a0 a1 a2 a3 ka1 ka2 ka3 us ss bs md im (r_2 + v) (him) (hs1) (hs9)) (cwV 2 hts gX0_add_X0_write rfl rfl rfl (by decide +kernel) ⟨Nat.le_of_ble_eq_true rfl, Nat.le_of_ble_eq_true rfl⟩) ⟨fun a U g mk q => by obtain ⟨q0, q1, qP, qK, qD, qT⟩ := q; exact ⟨q0, q1, qP, va_K.moved (u := U) (U := U.calling g mk a) (Vm.Alike.refl U.vm) qK, qD, tn_same qT⟩, va_recv hKc hPc (ci := 1) (q0 := 0) rfl rfl, fun U hU hW => ⟨rfl, by rw [hU], by rw [hU]; exact hPc, va_K.moved hW.alike hKc, hDc.weaken (fun _ _ _ _ => trivial), tn_in hW hU hS hFc hT⟩⟩ rfl rfl hl.1 rfl (lv_room (Nat.le_of_ble_eq_true rfl)) dX0_add_80 ⟨Nat.zero_le _, Nat.zero_le _⟩) hS (fun q _ h => hFc q h) (fun q h => hFc q h) (fun r_80 u t H1 locs ht hvm w_80 hB hz1 hk1 hS => ?_)
          try dsimp only at w_80
          obtain ⟨bs_80, rfl⟩ : ∃ z, z = u := ⟨_, rfl⟩
          obtain ⟨hP1, hD1⟩ := hB
          rw [ht] at hP1
          obtain ⟨hP, hD⟩ := va_join (wr := []) (w1 := [(a0, .inr (1, [.ref a1, .ref a2, .ref a3, .int md])), (a1, .inl (ka1, 30, .inl us)), (a2, .inl (ka2, 30, .inl ss)), (a3, .inl (ka3, 270, .inl bs_80))]) hP hD [0, 1, 2, 3] [] rfl rfl (by decide) (by decide) hk1 hFc hP1 hD1
          generalize H1 = H at hP hS ⊢
          have hP := hP.sub (ws' := [(a0, .inr (1, [.ref a1, .ref a2, .ref a3, .int md])), (a1, .inl (ka1, 30, .inl us)), (a2, .inl (ka2, 30, .inl ss)), (a3, .inl (ka3, 270, .inl bs_80))]) [0, 1, 2, 3] rfl
          have hD := hD.sub (ws' := [(a0, .inr (1, [.ref a1, .ref a2, .ref a3, .int md])), (a1, .inl (ka1, 30, .inl us)), (a2, .inl (ka2, 30, .inl ss)), (a3, .inl (ka3, 270, .inl bs_80))]) [0, 1, 2, 3] (by decide) rfl
          exact W.zret (v := r_80) hx hb hr (ch_nar w_80.1) (fun t ht hW => ⟨⟨r_80, bs_80, rfl, w_80, by rw [ht]; exact hP, hD⟩, hS.F ht⟩) hS.2.2 dX0_add_83
        · refine lv_iload hx hb dX0_add_50 (lv_at hl 0 rfl) ?_
          refine lv_if_eq (tgt := 70) hx hb dX0_add_52 (by decide) (fun c_52 => ?_) (fun c_52 => ?_)
          · refine lv_lload_n hx hb dX0_add_70 rfl (lv_at hl 4 rfl) ?_
            refine lv_lstore (lv' := [(7, .long v), (6, .int 0), (4, .long r_2), (0, .ref a0), (1, .int im), (2, .long v)]) hx hb dX0_add_71 hl (by decide) rfl (fun ls hl => ?_)
            refine lv_aload_n hx hb dX0_add_73 rfl (lv_at hl 3 rfl) ?_
            refine lv_iload_n hx hb dX0_add_74 rfl (lv_at hl 4 rfl) ?_
            refine lv_lload hx hb dX0_add_75 (lv_at hl 2 rfl) ?_
            refine lv_lload hx hb dX0_add_77 (lv_at hl 0 rfl) ?_
            refine lv_ladd hx hb dX0_add_79 ?_
            have hPc := hP.sub (ws' := [(a0, .inr (1, [.ref a1, .ref a2, .ref a3, .int md])), (a1, .inl (ka1, 30, .inl us)), (a2, .inl (ka2, 30, .inl ss)), (a3, .inl (ka3, 270, .inl bs))]) [0, 1, 2, 3] rfl
            have hKc := hK.sub (tys' := [(ka1, .int), (ka2, .int), (ka3, .byte)]) [0, 1, 2] rfl
            have hDc := hD.sub (ws' := [(a0, .inr (1, [.ref a1, .ref a2, .ref a3, .int md])), (a1, .inl (ka1, 30, .inl us)), (a2, .inl (ka2, 30, .inl ss)), (a3, .inl (ka3, 270, .inl bs))]) [0, 1, 2, 3] (by decide) rfl
            have hFc := va_free (wc := [(a0, .inr (1, [.ref a1, .ref a2, .ref a3, .int md])), (a1, .inl (ka1, 30, .inl us)), (a2, .inl (ka2, 30, .inl ss)), (a3, .inl (ka3, 270, .inl bs))]) hD hS hA [0, 1, 2, 3] rfl
            refine va_calli (va_runV (As := [.int im, .long (r_2 + v)]) (rest := []) ⟨hx, hb, hml, hown, hts⟩ (c_X0_write l dC dI tT H.size a0 a1 a2 a3 ka1 ka2 ka3 us ss bs md im (r_2 + v) (him) (hs1) (hs9)) (cwV 2 hts gX0_add_X0_write rfl rfl rfl (by decide +kernel) ⟨Nat.le_of_ble_eq_true rfl, Nat.le_of_ble_eq_true rfl⟩) ⟨fun a U g mk q => by obtain ⟨q0, q1, qP, qK, qD, qT⟩ := q; exact ⟨q0, q1, qP, va_K.moved (u := U) (U := U.calling g mk a) (Vm.Alike.refl U.vm) qK, qD, tn_same qT⟩, va_recv hKc hPc (ci := 1) (q0 := 0) rfl rfl, fun U hU hW => ⟨rfl, by rw [hU], by rw [hU]; exact hPc, va_K.moved hW.alike hKc, hDc.weaken (fun _ _ _ _ => trivial), tn_in hW hU hS hFc hT⟩⟩ rfl rfl hl.1 rfl (lv_room (Nat.le_of_ble_eq_true rfl)) dX0_add_80 ⟨Nat.zero_le _, Nat.zero_le _⟩) hS (fun q _ h => hFc q h) (fun q h => hFc q h) (fun r_80 u t H1 locs ht hvm w_80 hB hz1 hk1 hS => ?_)
            try dsimp only at w_80
            obtain ⟨bs_80, rfl⟩ : ∃ z, z = u := ⟨_, rfl⟩
            obtain ⟨hP1, hD1⟩ := hB
            rw [ht] at hP1
            obtain ⟨hP, hD⟩ := va_join (wr := []) (w1 := [(a0, .inr (1, [.ref a1, .ref a2, .ref a3, .int md])), (a1, .inl (ka1, 30, .inl us)), (a2, .inl (ka2, 30, .inl ss)), (a3, .inl (ka3, 270, .inl bs_80))]) hP hD [0, 1, 2, 3] [] rfl rfl (by decide) (by decide) hk1 hFc hP1 hD1
            generalize H1 = H at hP hS ⊢
            have hP := hP.sub (ws' := [(a0, .inr (1, [.ref a1, .ref a2, .ref a3, .int md])), (a1, .inl (ka1, 30, .inl us)), (a2, .inl (ka2, 30, .inl ss)), (a3, .inl (ka3, 270, .inl bs_80))]) [0, 1, 2, 3] rfl
            have hD := hD.sub (ws' := [(a0, .inr (1, [.ref a1, .ref a2, .ref a3, .int md])), (a1, .inl (ka1, 30, .inl us)), (a2, .inl (ka2, 30, .inl ss)), (a3, .inl (ka3, 270, .inl bs_80))]) [0, 1, 2, 3] (by decide) rfl
            exact W.zret (v := r_80) hx hb hr (ch_nar w_80.1) (fun t ht hW => ⟨⟨r_80, bs_80, rfl, w_80, by rw [ht]; exact hP, hD⟩, hS.F ht⟩) hS.2.2 dX0_add_83
          · exact absurd c_52 (by decide)
      · exact absurd c_30 (by decide)
    · refine lv_iconst (v := 1) hx hb dX0_add_25 (by decide) ?_
      refine lv_goto (tgt := 30) hx hb dX0_add_26 (by decide) ?_
      refine lv_icmp_ne (tgt := 37) hx hb dX0_add_30 (by decide) (fun c_30 => ?_) (fun c_30 => ?_)
      · exact absurd c_30 (by decide)
      · refine lv_iconst (v := 1) hx hb dX0_add_33 (by decide) ?_
        refine lv_goto (tgt := 38) hx hb dX0_add_34 (by decide) ?_
        refine lv_istore (lv' := [(6, .int 1), (4, .long r_2), (0, .ref a0), (1, .int im), (2, .long v)]) hx hb dX0_add_38 hl (by decide) rfl (fun ls hl => ?_)
        refine lv_aload_n hx hb dX0_add_40 rfl (lv_at hl 2 rfl) ?_
        refine va_get (D := (dC, dI)) (ci := 1) (v := .ref a1) (C := RX0) (T := TX0) (N := 4) hx hb hts (by decide +kernel) hown hK hP 0 rfl rfl 0 (by decide) (hts (.fieldLink RX0 11 "CobolDebugger$Items" "usages" "[I") (by decide +kernel)) (fun _ h9 => h9) rfl dX0_add_41 ?_
        refine lv_iload_n hx hb dX0_add_44 rfl (lv_at hl 3 rfl) ?_
        refine va_iald hx hb hK hP 1 0 rfl rfl (i := im) him dX0_add_45 ?_
        refine lv_iconst (v := 1) hx hb dX0_add_46 (by decide) ?_
        refine lv_icmp_eq (tgt := 70) hx hb dX0_add_47 (by decide) (fun c_47 => ?_) (fun c_47 => ?_)
        · refine lv_lload_n hx hb dX0_add_70 rfl (lv_at hl 4 rfl) ?_
          refine lv_lstore (lv' := [(7, .long v), (6, .int 1), (4, .long r_2), (0, .ref a0), (1, .int im), (2, .long v)]) hx hb dX0_add_71 hl (by decide) rfl (fun ls hl => ?_)
          refine lv_aload_n hx hb dX0_add_73 rfl (lv_at hl 3 rfl) ?_
          refine lv_iload_n hx hb dX0_add_74 rfl (lv_at hl 4 rfl) ?_
          refine lv_lload hx hb dX0_add_75 (lv_at hl 2 rfl) ?_
          refine lv_lload hx hb dX0_add_77 (lv_at hl 0 rfl) ?_
          refine lv_ladd hx hb dX0_add_79 ?_
          have hPc := hP.sub (ws' := [(a0, .inr (1, [.ref a1, .ref a2, .ref a3, .int md])), (a1, .inl (ka1, 30, .inl us)), (a2, .inl (ka2, 30, .inl ss)), (a3, .inl (ka3, 270, .inl bs))]) [0, 1, 2, 3] rfl
          have hKc := hK.sub (tys' := [(ka1, .int), (ka2, .int), (ka3, .byte)]) [0, 1, 2] rfl
          have hDc := hD.sub (ws' := [(a0, .inr (1, [.ref a1, .ref a2, .ref a3, .int md])), (a1, .inl (ka1, 30, .inl us)), (a2, .inl (ka2, 30, .inl ss)), (a3, .inl (ka3, 270, .inl bs))]) [0, 1, 2, 3] (by decide) rfl
          have hFc := va_free (wc := [(a0, .inr (1, [.ref a1, .ref a2, .ref a3, .int md])), (a1, .inl (ka1, 30, .inl us)), (a2, .inl (ka2, 30, .inl ss)), (a3, .inl (ka3, 270, .inl bs))]) hD hS hA [0, 1, 2, 3] rfl
          refine va_calli (va_runV (As := [.int im, .long (r_2 + v)]) (rest := []) ⟨hx, hb, hml, hown, hts⟩ (c_X0_write l dC dI tT H.size a0 a1 a2 a3 ka1 ka2 ka3 us ss bs md im (r_2 + v) (him) (hs1) (hs9)) (cwV 2 hts gX0_add_X0_write rfl rfl rfl (by decide +kernel) ⟨Nat.le_of_ble_eq_true rfl, Nat.le_of_ble_eq_true rfl⟩) ⟨fun a U g mk q => by obtain ⟨q0, q1, qP, qK, qD, qT⟩ := q; exact ⟨q0, q1, qP, va_K.moved (u := U) (U := U.calling g mk a) (Vm.Alike.refl U.vm) qK, qD, tn_same qT⟩, va_recv hKc hPc (ci := 1) (q0 := 0) rfl rfl, fun U hU hW => ⟨rfl, by rw [hU], by rw [hU]; exact hPc, va_K.moved hW.alike hKc, hDc.weaken (fun _ _ _ _ => trivial), tn_in hW hU hS hFc hT⟩⟩ rfl rfl hl.1 rfl (lv_room (Nat.le_of_ble_eq_true rfl)) dX0_add_80 ⟨Nat.zero_le _, Nat.zero_le _⟩) hS (fun q _ h => hFc q h) (fun q h => hFc q h) (fun r_80 u t H1 locs ht hvm w_80 hB hz1 hk1 hS => ?_)
          try dsimp only at w_80
          obtain ⟨bs_80, rfl⟩ : ∃ z, z = u := ⟨_, rfl⟩
          obtain ⟨hP1, hD1⟩ := hB
          rw [ht] at hP1
          obtain ⟨hP, hD⟩ := va_join (wr := []) (w1 := [(a0, .inr (1, [.ref a1, .ref a2, .ref a3, .int md])), (a1, .inl (ka1, 30, .inl us)), (a2, .inl (ka2, 30, .inl ss)), (a3, .inl (ka3, 270, .inl bs_80))]) hP hD [0, 1, 2, 3] [] rfl rfl (by decide) (by decide) hk1 hFc hP1 hD1
          generalize H1 = H at hP hS ⊢
          have hP := hP.sub (ws' := [(a0, .inr (1, [.ref a1, .ref a2, .ref a3, .int md])), (a1, .inl (ka1, 30, .inl us)), (a2, .inl (ka2, 30, .inl ss)), (a3, .inl (ka3, 270, .inl bs_80))]) [0, 1, 2, 3] rfl
          have hD := hD.sub (ws' := [(a0, .inr (1, [.ref a1, .ref a2, .ref a3, .int md])), (a1, .inl (ka1, 30, .inl us)), (a2, .inl (ka2, 30, .inl ss)), (a3, .inl (ka3, 270, .inl bs_80))]) [0, 1, 2, 3] (by decide) rfl
          exact W.zret (v := r_80) hx hb hr (ch_nar w_80.1) (fun t ht hW => ⟨⟨r_80, bs_80, rfl, w_80, by rw [ht]; exact hP, hD⟩, hS.F ht⟩) hS.2.2 dX0_add_83
        · refine lv_iload hx hb dX0_add_50 (lv_at hl 0 rfl) ?_
          refine lv_if_eq (tgt := 70) hx hb dX0_add_52 (by decide) (fun c_52 => ?_) (fun c_52 => ?_)
          · exact absurd c_52 (by decide)
          · refine lv_lload_n hx hb dX0_add_55 rfl (lv_at hl 4 rfl) ?_
            refine va_gets hx hb hZ9 hS hown (hts (.fieldLink RX0 54 "CobolDebugger$Items" "TENS" "[J") (by decide +kernel)) (fun _ h9 => h9) dX0_add_56 ?_
            refine lv_aload_n hx hb dX0_add_59 rfl (lv_at hl 2 rfl) ?_
            refine va_get (D := (dC, dI)) (ci := 1) (v := .ref a2) (C := RX0) (T := TX0) (N := 4) hx hb hts (by decide +kernel) hown hK hP 0 rfl rfl 1 (by decide) (hts (.fieldLink RX0 15 "CobolDebugger$Items" "sizes" "[I") (by decide +kernel)) (fun _ h9 => h9) rfl dX0_add_60 ?_
            refine lv_iload_n hx hb dX0_add_63 rfl (lv_at hl 3 rfl) ?_
            refine va_iald hx hb hK hP 2 1 rfl rfl (i := im) him dX0_add_64 ?_
            refine va_tl hx hb hT9 hS (ix_r (by omega) (by omega)) (v := .long (tn_v (ss im.toNatClampNeg).toNatClampNeg)) rfl dX0_add_65 ?_
            refine lv_lrem hx hb dX0_add_66 (tn_ne _) ?_
            refine lv_goto (tgt := 71) hx hb dX0_add_67 (by decide) ?_
            refine lv_lstore (lv' := [(7, .long (v - v / (tn_v (ss im.toNatClampNeg).toNatClampNeg) * (tn_v (ss im.toNatClampNeg).toNatClampNeg))), (6, .int 1), (4, .long r_2), (0, .ref a0), (1, .int im), (2, .long v)]) hx hb dX0_add_71 hl (by decide) rfl (fun ls hl => ?_)
            refine lv_aload_n hx hb dX0_add_73 rfl (lv_at hl 3 rfl) ?_
            refine lv_iload_n hx hb dX0_add_74 rfl (lv_at hl 4 rfl) ?_
            refine lv_lload hx hb dX0_add_75 (lv_at hl 2 rfl) ?_
            refine lv_lload hx hb dX0_add_77 (lv_at hl 0 rfl) ?_
            refine lv_ladd hx hb dX0_add_79 ?_
            have hPc := hP.sub (ws' := [(a0, .inr (1, [.ref a1, .ref a2, .ref a3, .int md])), (a1, .inl (ka1, 30, .inl us)), (a2, .inl (ka2, 30, .inl ss)), (a3, .inl (ka3, 270, .inl bs))]) [0, 1, 2, 3] rfl
            have hKc := hK.sub (tys' := [(ka1, .int), (ka2, .int), (ka3, .byte)]) [0, 1, 2] rfl
            have hDc := hD.sub (ws' := [(a0, .inr (1, [.ref a1, .ref a2, .ref a3, .int md])), (a1, .inl (ka1, 30, .inl us)), (a2, .inl (ka2, 30, .inl ss)), (a3, .inl (ka3, 270, .inl bs))]) [0, 1, 2, 3] (by decide) rfl
            have hFc := va_free (wc := [(a0, .inr (1, [.ref a1, .ref a2, .ref a3, .int md])), (a1, .inl (ka1, 30, .inl us)), (a2, .inl (ka2, 30, .inl ss)), (a3, .inl (ka3, 270, .inl bs))]) hD hS hA [0, 1, 2, 3] rfl
            refine va_calli (va_runV (As := [.int im, .long (r_2 + (v - v / (tn_v (ss im.toNatClampNeg).toNatClampNeg) * (tn_v (ss im.toNatClampNeg).toNatClampNeg)))]) (rest := []) ⟨hx, hb, hml, hown, hts⟩ (c_X0_write l dC dI tT H.size a0 a1 a2 a3 ka1 ka2 ka3 us ss bs md im (r_2 + (v - v / (tn_v (ss im.toNatClampNeg).toNatClampNeg) * (tn_v (ss im.toNatClampNeg).toNatClampNeg))) (him) (hs1) (hs9)) (cwV 2 hts gX0_add_X0_write rfl rfl rfl (by decide +kernel) ⟨Nat.le_of_ble_eq_true rfl, Nat.le_of_ble_eq_true rfl⟩) ⟨fun a U g mk q => by obtain ⟨q0, q1, qP, qK, qD, qT⟩ := q; exact ⟨q0, q1, qP, va_K.moved (u := U) (U := U.calling g mk a) (Vm.Alike.refl U.vm) qK, qD, tn_same qT⟩, va_recv hKc hPc (ci := 1) (q0 := 0) rfl rfl, fun U hU hW => ⟨rfl, by rw [hU], by rw [hU]; exact hPc, va_K.moved hW.alike hKc, hDc.weaken (fun _ _ _ _ => trivial), tn_in hW hU hS hFc hT⟩⟩ rfl rfl hl.1 rfl (lv_room (Nat.le_of_ble_eq_true rfl)) dX0_add_80 ⟨Nat.zero_le _, Nat.zero_le _⟩) hS (fun q _ h => hFc q h) (fun q h => hFc q h) (fun r_80 u t H1 locs ht hvm w_80 hB hz1 hk1 hS => ?_)
            try dsimp only at w_80
            obtain ⟨bs_80, rfl⟩ : ∃ z, z = u := ⟨_, rfl⟩
            obtain ⟨hP1, hD1⟩ := hB
            rw [ht] at hP1
            obtain ⟨hP, hD⟩ := va_join (wr := []) (w1 := [(a0, .inr (1, [.ref a1, .ref a2, .ref a3, .int md])), (a1, .inl (ka1, 30, .inl us)), (a2, .inl (ka2, 30, .inl ss)), (a3, .inl (ka3, 270, .inl bs_80))]) hP hD [0, 1, 2, 3] [] rfl rfl (by decide) (by decide) hk1 hFc hP1 hD1
            generalize H1 = H at hP hS ⊢
            have hP := hP.sub (ws' := [(a0, .inr (1, [.ref a1, .ref a2, .ref a3, .int md])), (a1, .inl (ka1, 30, .inl us)), (a2, .inl (ka2, 30, .inl ss)), (a3, .inl (ka3, 270, .inl bs_80))]) [0, 1, 2, 3] rfl
            have hD := hD.sub (ws' := [(a0, .inr (1, [.ref a1, .ref a2, .ref a3, .int md])), (a1, .inl (ka1, 30, .inl us)), (a2, .inl (ka2, 30, .inl ss)), (a3, .inl (ka3, 270, .inl bs_80))]) [0, 1, 2, 3] (by decide) rfl
            exact W.zret (v := r_80) hx hb hr (ch_nar w_80.1) (fun t ht hW => ⟨⟨r_80, bs_80, rfl, w_80, by rw [ht]; exact hP, hD⟩, hS.F ht⟩) hS.2.2 dX0_add_83

set_option maxHeartbeats 4000000 in
set_option maxRecDepth 100000 in
theorem c_X3_reaches (l : Launch) (dC : Nat → ClassId) (dI : Nat → Nat → Nat) (a0 a1 a2 a3 : Nat) (ka1 ka2 ka3 : ClassId) (us ss bs : Nat → Int32) (md : Int32) (im : Int32) (co : Int32) (him : vp_in im 30) (hs1 : 1 ≤ (ss im.toNatClampNeg).toInt) (hs9 : (ss im.toNatClampNeg).toInt ≤ 9) (hfb : fitB bs) : Met l yX3_reaches wsX3_reaches ({ frames := 3, cells := 0, slots := 0, locals := 67 }) (va_Pc [.ref a0, .int im, .int co] (fun U => va_P (dC, dI) vwCl [(a0, .inr (1, [.ref a1, .ref a2, .ref a3, .int md])), (a1, .inl (ka1, 30, .inl us)), (a2, .inl (ka2, 30, .inl ss)), (a3, .inl (ka3, 270, .inl bs))] U.heap ∧ va_K (dC, dI) vwCl [(ka1, .int), (ka2, .int), (ka3, .byte)] U ∧ nW U)) (va_Qi (fun (r : Int32) (_ : Unit) => True) (fun _ _ => True) (fun _ => False)) 0 0 (fun _ => False) := by
  refine Met.ofW (cc := cX3_reaches) (maxL := 3) (ret := (some .boolean)) (by decide) rfl ?_
  intro p e s m args below meth c s₁ B hml hv
  obtain ⟨rfl, hP, hK, hN⟩ := hv
  have hx := B.exec
  have hb := B.bytes
  have hr := B.returns
  have hts := atoms_spec (ws := wsX3_reaches) B.pre
  have hown : s.vm.findClass RX3 = some m.cls := findClass_of_methodNamed B.named
  have hlocks := B.notSynchronized
  have hS : va_S (fun _ => False) s.heap s.heap [] := va_S.rf
  have hl := lv_entry ([.ref a0, .int im, .int co]) (n := 3) (Nat.le_of_ble_eq_true rfl)
  rw [lg_entry_eq]
  generalize (lg_sl ([.ref a0, .int im, .int co]) ++ List.replicate (3 - (lg_sl ([.ref a0, .int im, .int co])).length) Slot.unset).toArray = ls at hl ⊢
  have hl : lv_has ls 3 [(0, .ref a0), (1, .int im), (2, .int co)] := hl
  refine lv_aload_n hx hb dX3_reaches_0 rfl (lv_at hl 0 rfl) ?_
  refine lv_iload_n hx hb dX3_reaches_1 rfl (lv_at hl 1 rfl) ?_
  have hPc := hP.sub (ws' := [(a0, .inr (1, [.ref a1, .ref a2, .ref a3, .int md])), (a1, .inl (ka1, 30, .inl us)), (a2, .inl (ka2, 30, .inl ss)), (a3, .inl (ka3, 270, .inl bs))]) [0, 1, 2, 3] rfl
  have hKc := hK.sub (tys' := [(ka1, .int), (ka2, .int), (ka3, .byte)]) [0, 1, 2] rfl
  refine va_calli (va_runVN (C := RX0) (As := [.int im]) (rest := []) ⟨hx, hb, hml, hown, hts⟩ (c_X0_isBad l dC dI a0 a1 a2 a3 ka1 ka2 ka3 us ss bs md im (him) (hs1) (hs9) (hfb)) ⟨va_cnB 1 hts gX3_reaches_X0_isBad_n29 rfl rfl rfl (nwm hN (RX3, 29, yX0_isBad, RX4) (by decide +kernel)) (hts (.initialized RX0) (by decide +kernel)) (by decide +kernel) ⟨Nat.le_of_ble_eq_true rfl, Nat.le_of_ble_eq_true rfl⟩, hts (.instanceMethod yX0_isBad) (by decide +kernel), hts (.selects RX0 yX0_isBad yX0_isBad) (by decide +kernel)⟩ ⟨fun a U g mk q => by obtain ⟨q0, qP, qK⟩ := q; exact ⟨q0, qP, va_K.moved (u := U) (U := U.calling g mk a) (Vm.Alike.refl U.vm) qK⟩, va_recv hKc hPc (ci := 1) (q0 := 0) rfl rfl, fun U hU hW => ⟨rfl, by rw [hU]; exact hPc, va_K.moved hW.alike hKc⟩⟩ rfl rfl hl.1 rfl (lv_room (Nat.le_of_ble_eq_true rfl)) dX3_reaches_2 ⟨Nat.zero_le _, Nat.zero_le _⟩) hS (fun q _ h => h.elim) (fun q h => h.elim) (fun r_2 u t H1 locs ht hvm w_2 hB hz1 hk1 hS => ?_)
  try dsimp only at w_2
  have hP := rd_keep hP hk1
  clear hB hk1 hz1 ht hvm u t
  generalize H1 = H at hP hS ⊢
  refine lv_if_ne (tgt := 23) hx hb dX3_reaches_5 (by decide) (fun c_5 => ?_) (fun c_5 => ?_)
  · refine lv_iconst (v := 0) hx hb dX3_reaches_23 (by decide) ?_
    exact W.zret (v := 0) hx hb hr (by decide) (fun t ht hW => ⟨⟨0, (), rfl, trivial, trivial⟩, hS.F ht⟩) hS.2.2 dX3_reaches_24
  · refine lv_aload_n hx hb dX3_reaches_8 rfl (lv_at hl 0 rfl) ?_
    refine lv_iload_n hx hb dX3_reaches_9 rfl (lv_at hl 1 rfl) ?_
    have hPc := hP.sub (ws' := [(a0, .inr (1, [.ref a1, .ref a2, .ref a3, .int md])), (a1, .inl (ka1, 30, .inl us)), (a2, .inl (ka2, 30, .inl ss)), (a3, .inl (ka3, 270, .inl bs))]) [0, 1, 2, 3] rfl
    have hKc := hK.sub (tys' := [(ka1, .int), (ka2, .int), (ka3, .byte)]) [0, 1, 2] rfl
    refine va_calll (va_runVN (C := RX0) (As := [.int im]) (rest := []) ⟨hx, hb, hml, hown, hts⟩ (c_X0_says l dC dI a0 a1 a2 a3 ka1 ka2 ka3 us ss bs md im (him) (hs1) (hs9) (hfb)) ⟨va_cnB 1 hts gX3_reaches_X0_says_n35 rfl rfl rfl (nwm hN (RX3, 35, yX0_says, RX4) (by decide +kernel)) (hts (.initialized RX0) (by decide +kernel)) (by decide +kernel) ⟨Nat.le_of_ble_eq_true rfl, Nat.le_of_ble_eq_true rfl⟩, hts (.instanceMethod yX0_says) (by decide +kernel), hts (.selects RX0 yX0_says yX0_says) (by decide +kernel)⟩ ⟨fun a U g mk q => by obtain ⟨q0, qP, qK⟩ := q; exact ⟨q0, qP, va_K.moved (u := U) (U := U.calling g mk a) (Vm.Alike.refl U.vm) qK⟩, va_recv hKc hPc (ci := 1) (q0 := 0) rfl rfl, fun U hU hW => ⟨rfl, by rw [hU]; exact hPc, va_K.moved hW.alike hKc⟩⟩ rfl rfl hl.1 rfl (lv_room (Nat.le_of_ble_eq_true rfl)) dX3_reaches_10 ⟨Nat.zero_le _, Nat.zero_le _⟩) hS (fun q _ h => h.elim) (fun q h => h.elim) (fun r_10 u t H1 locs ht hvm w_10 hB hz1 hk1 hS => ?_)
    try dsimp only at w_10
    have hP := rd_keep hP hk1
    clear hB hk1 hz1 ht hvm u t
    generalize H1 = H at hP hS ⊢
    refine lv_iload_n hx hb dX3_reaches_13 rfl (lv_at hl 2 rfl) ?_
    refine lv_i2l hx hb dX3_reaches_14 rfl ?_
    refine W.lcmp hx hb dX3_reaches_15 ?_
    refine lv_if_lt (tgt := 23) hx hb dX3_reaches_16 (by decide) (fun c_16 => ?_) (fun c_16 => ?_)
    · refine lv_iconst (v := 0) hx hb dX3_reaches_23 (by decide) ?_
      exact W.zret (v := 0) hx hb hr (by decide) (fun t ht hW => ⟨⟨0, (), rfl, trivial, trivial⟩, hS.F ht⟩) hS.2.2 dX3_reaches_24
    · refine lv_iconst (v := 1) hx hb dX3_reaches_19 (by decide) ?_
      refine lv_goto (tgt := 24) hx hb dX3_reaches_20 (by decide) ?_
      exact W.zret (v := 1) hx hb hr (by decide) (fun t ht hW => ⟨⟨1, (), rfl, trivial, trivial⟩, hS.F ht⟩) hS.2.2 dX3_reaches_24

set_option maxHeartbeats 4000000 in
set_option maxRecDepth 100000 in
theorem c_X3_leastAhead (l : Launch) (dC : Nat → ClassId) (dI : Nat → Nat → Nat) (b0 b1 b2 b3 : Nat) (kb1 kb2 : ClassId) (kd of : Nat → Int32) (sm : Int32) (be : Int32) (li : Int32) (hsm : sm.toInt ≤ 20) : Met l yX3_leastAhead wsX3_leastAhead ({ frames := 0, cells := 0, slots := 0, locals := 0 }) (va_Pc [.ref b0, .int be, .int li] (fun U => va_P (dC, dI) vwCl [(b0, .inr (4, [.ref b1, .ref b2, .ref b3, .int sm])), (b1, .inl (kb1, 20, .inl kd)), (b2, .inl (kb2, 20, .inl of))] U.heap ∧ va_K (dC, dI) vwCl [(kb1, .int), (kb2, .int)] U)) (va_Qi (fun (r : Int32) (_ : Unit) => True) (fun _ _ => True) (fun _ => False)) 0 0 (fun _ => False) := by
  refine Met.ofW (cc := cX3_leastAhead) (maxL := 6) (ret := (some .int)) (by decide) rfl ?_
  intro p e s m args below meth c s₁ B hml hv
  obtain ⟨rfl, hP, hK⟩ := hv
  have hx := B.exec
  have hb := B.bytes
  have hr := B.returns
  have hts := atoms_spec (ws := wsX3_leastAhead) B.pre
  have hown : s.vm.findClass RX3 = some m.cls := findClass_of_methodNamed B.named
  have hlocks := B.notSynchronized
  have hS : va_S (fun _ => False) s.heap s.heap [] := va_S.rf
  have hl := lv_entry ([.ref b0, .int be, .int li]) (n := 6) (Nat.le_of_ble_eq_true rfl)
  rw [lg_entry_eq]
  generalize (lg_sl ([.ref b0, .int be, .int li]) ++ List.replicate (6 - (lg_sl ([.ref b0, .int be, .int li])).length) Slot.unset).toArray = ls at hl ⊢
  have hl : lv_has ls 6 [(0, .ref b0), (1, .int be), (2, .int li)] := hl
  refine lv_iconst (v := 0) hx hb dX3_leastAhead_0 (by decide) ?_
  refine lv_istore_n (lv' := [(3, .int 0), (0, .ref b0), (1, .int be), (2, .int li)]) hx hb dX3_leastAhead_1 rfl hl (by decide) rfl (fun ls hl => ?_)
  refine wl1 (μ := fun (i : Int32) => (sm.toInt - i.toInt).toNat) (I := fun (i : Int32) (ls : Array Slot) (H : Heap) (locs : List Loc) => lv_has ls 6 [(0, .ref b0), (1, .int be), (2, .int li), (3, .int i)] ∧ va_P (dC, dI) vwCl [(b0, .inr (4, [.ref b1, .ref b2, .ref b3, .int sm])), (b1, .inl (kb1, 20, .inl kd)), (b2, .inl (kb2, 20, .inl of))] H ∧ va_S (fun _ => False) s.heap H locs ∧ (0 ≤ i.toInt)) (fun i ls H locs hI ih => ?_) 0 ls _ _ ⟨lv_sub hl [1, 2, 3, 0] rfl, hP, hS, by decide⟩
  obtain ⟨hl, hP, hS, hi0⟩ := hI
  refine lv_iload_n hx hb dX3_leastAhead_2 rfl (lv_at hl 3 rfl) ?_
  refine lv_aload_n hx hb dX3_leastAhead_3 rfl (lv_at hl 0 rfl) ?_
  refine va_get (D := (dC, dI)) (ci := 4) (v := .int sm) (C := RX3) (T := TX3) (N := 4) hx hb hts (by decide +kernel) hown hK hP 0 rfl rfl 3 (by decide) (hts (.fieldLink RX3 21 "CobolDebugger$Stops" "made" "I") (by decide +kernel)) (fun _ h9 => h9) rfl dX3_leastAhead_4 ?_
  refine lv_icmp_ge (tgt := 88) hx hb dX3_leastAhead_7 (by decide) (fun c_7 => ?_) (fun c_7 => ?_)
  · refine lv_iconst (v := 0) hx hb dX3_leastAhead_88 (by decide) ?_
    exact W.iret (v := 0) hx hb hr (fun t ht hW => ⟨⟨0, (), rfl, trivial, trivial⟩, hS.F ht⟩) hS.2.2 dX3_leastAhead_89
  · have hin : vp_in i 20 := ix_mr hsm hi0 c_7
    have hi9 := n_lt c_7
    refine lv_aload_n hx hb dX3_leastAhead_10 rfl (lv_at hl 0 rfl) ?_
    refine va_get (D := (dC, dI)) (ci := 4) (v := .ref b1) (C := RX3) (T := TX3) (N := 4) hx hb hts (by decide +kernel) hown hK hP 0 rfl rfl 0 (by decide) (hts (.fieldLink RX3 11 "CobolDebugger$Stops" "kinds" "[I") (by decide +kernel)) (fun _ h9 => h9) rfl dX3_leastAhead_11 ?_
    refine lv_iload_n hx hb dX3_leastAhead_14 rfl (lv_at hl 3 rfl) ?_
    refine va_iald hx hb hK hP 1 0 rfl rfl (i := i) hin dX3_leastAhead_15 ?_
    refine lv_if_ne (tgt := 38) hx hb dX3_leastAhead_16 (by decide) (fun c_16 => ?_) (fun c_16 => ?_)
    · refine lv_iconst (v := 0) hx hb dX3_leastAhead_38 (by decide) ?_
      refine lv_istore (lv' := [(4, .int 0), (0, .ref b0), (1, .int be), (2, .int li), (3, .int i)]) hx hb dX3_leastAhead_39 hl (by decide) rfl (fun ls hl => ?_)
      refine lv_aload_n hx hb dX3_leastAhead_41 rfl (lv_at hl 1 rfl) ?_
      refine va_get (D := (dC, dI)) (ci := 4) (v := .ref b1) (C := RX3) (T := TX3) (N := 4) hx hb hts (by decide +kernel) hown hK hP 0 rfl rfl 0 (by decide) (hts (.fieldLink RX3 11 "CobolDebugger$Stops" "kinds" "[I") (by decide +kernel)) (fun _ h9 => h9) rfl dX3_leastAhead_42 ?_
      refine lv_iload_n hx hb dX3_leastAhead_45 rfl (lv_at hl 4 rfl) ?_
      refine va_iald hx hb hK hP 1 0 rfl rfl (i := i) hin dX3_leastAhead_46 ?_
      refine lv_iconst (v := 1) hx hb dX3_leastAhead_47 (by decide) ?_
      refine lv_icmp_ne (tgt := 65) hx hb dX3_leastAhead_48 (by decide) (fun c_48 => ?_) (fun c_48 => ?_)
      · refine lv_iconst (v := 0) hx hb dX3_leastAhead_65 (by decide) ?_
        refine lv_istore (lv' := [(5, .int 0), (4, .int 0), (0, .ref b0), (1, .int be), (2, .int li), (3, .int i)]) hx hb dX3_leastAhead_66 hl (by decide) rfl (fun ls hl => ?_)
        refine lv_iload hx hb dX3_leastAhead_68 (lv_at hl 1 rfl) ?_
        refine lv_if_ne (tgt := 78) hx hb dX3_leastAhead_70 (by decide) (fun c_70 => ?_) (fun c_70 => ?_)
        · exact absurd c_70 (by decide)
        · refine lv_iload hx hb dX3_leastAhead_73 (lv_at hl 0 rfl) ?_
          refine lv_if_eq (tgt := 82) hx hb dX3_leastAhead_75 (by decide) (fun c_75 => ?_) (fun c_75 => ?_)
          · obtain ⟨i_1, e_i_1⟩ : ∃ y : Int32, y = i + 1 := ⟨_, rfl⟩
            refine lv_iinc (v := i_1) (lv' := [(3, .int i_1), (5, .int 0), (4, .int 0), (0, .ref b0), (1, .int be), (2, .int li)]) hx hb dX3_leastAhead_82 hl (k := 5) rfl (by rw [e_i_1]; rfl) (by decide) rfl (fun ls hl => ?_)
            refine lv_goto (tgt := 2) hx hb dX3_leastAhead_85 (by decide) ?_
            exact ih i_1 _ _ _ ⟨lv_sub hl [3, 4, 5, 0] rfl, hP, hS, by rw [e_i_1, i_p1 (by omega) (by omega)]; omega⟩ (by rw [e_i_1, i_p1 (by omega) (by omega)]; omega)
          · exact absurd c_75 (by decide)
      · refine lv_aload_n hx hb dX3_leastAhead_51 rfl (lv_at hl 1 rfl) ?_
        refine va_get (D := (dC, dI)) (ci := 4) (v := .ref b2) (C := RX3) (T := TX3) (N := 4) hx hb hts (by decide +kernel) hown hK hP 0 rfl rfl 1 (by decide) (hts (.fieldLink RX3 15 "CobolDebugger$Stops" "ofs" "[I") (by decide +kernel)) (fun _ h9 => h9) rfl dX3_leastAhead_52 ?_
        refine lv_iload_n hx hb dX3_leastAhead_55 rfl (lv_at hl 4 rfl) ?_
        refine va_iald hx hb hK hP 2 1 rfl rfl (i := i) hin dX3_leastAhead_56 ?_
        refine lv_iload_n hx hb dX3_leastAhead_57 rfl (lv_at hl 3 rfl) ?_
        refine lv_icmp_ne (tgt := 65) hx hb dX3_leastAhead_58 (by decide) (fun c_58 => ?_) (fun c_58 => ?_)
        · refine lv_iconst (v := 0) hx hb dX3_leastAhead_65 (by decide) ?_
          refine lv_istore (lv' := [(5, .int 0), (4, .int 0), (0, .ref b0), (1, .int be), (2, .int li), (3, .int i)]) hx hb dX3_leastAhead_66 hl (by decide) rfl (fun ls hl => ?_)
          refine lv_iload hx hb dX3_leastAhead_68 (lv_at hl 1 rfl) ?_
          refine lv_if_ne (tgt := 78) hx hb dX3_leastAhead_70 (by decide) (fun c_70 => ?_) (fun c_70 => ?_)
          · exact absurd c_70 (by decide)
          · refine lv_iload hx hb dX3_leastAhead_73 (lv_at hl 0 rfl) ?_
            refine lv_if_eq (tgt := 82) hx hb dX3_leastAhead_75 (by decide) (fun c_75 => ?_) (fun c_75 => ?_)
            · obtain ⟨i_2, e_i_2⟩ : ∃ y : Int32, y = i + 1 := ⟨_, rfl⟩
              refine lv_iinc (v := i_2) (lv' := [(3, .int i_2), (5, .int 0), (4, .int 0), (0, .ref b0), (1, .int be), (2, .int li)]) hx hb dX3_leastAhead_82 hl (k := 5) rfl (by rw [e_i_2]; rfl) (by decide) rfl (fun ls hl => ?_)
              refine lv_goto (tgt := 2) hx hb dX3_leastAhead_85 (by decide) ?_
              exact ih i_2 _ _ _ ⟨lv_sub hl [3, 4, 5, 0] rfl, hP, hS, by rw [e_i_2, i_p1 (by omega) (by omega)]; omega⟩ (by rw [e_i_2, i_p1 (by omega) (by omega)]; omega)
            · exact absurd c_75 (by decide)
        · refine lv_iconst (v := 1) hx hb dX3_leastAhead_61 (by decide) ?_
          refine lv_goto (tgt := 66) hx hb dX3_leastAhead_62 (by decide) ?_
          refine lv_istore (lv' := [(5, .int 1), (4, .int 0), (0, .ref b0), (1, .int be), (2, .int li), (3, .int i)]) hx hb dX3_leastAhead_66 hl (by decide) rfl (fun ls hl => ?_)
          refine lv_iload hx hb dX3_leastAhead_68 (lv_at hl 1 rfl) ?_
          refine lv_if_ne (tgt := 78) hx hb dX3_leastAhead_70 (by decide) (fun c_70 => ?_) (fun c_70 => ?_)
          · exact absurd c_70 (by decide)
          · refine lv_iload hx hb dX3_leastAhead_73 (lv_at hl 0 rfl) ?_
            refine lv_if_eq (tgt := 82) hx hb dX3_leastAhead_75 (by decide) (fun c_75 => ?_) (fun c_75 => ?_)
            · exact absurd c_75 (by decide)
            · refine lv_iload_n hx hb dX3_leastAhead_78 rfl (lv_at hl 5 rfl) ?_
              refine lv_iconst (v := 1) hx hb dX3_leastAhead_79 (by decide) ?_
              refine lv_iadd hx hb dX3_leastAhead_80 ?_
              exact W.iret (v := i + 1) hx hb hr (fun t ht hW => ⟨⟨(i + 1), (), rfl, trivial, trivial⟩, hS.F ht⟩) hS.2.2 dX3_leastAhead_81
    · refine lv_iload_n hx hb dX3_leastAhead_19 rfl (lv_at hl 1 rfl) ?_
      refine lv_iconst (v := (-1)) hx hb dX3_leastAhead_20 (by decide) ?_
      refine lv_icmp_eq (tgt := 38) hx hb dX3_leastAhead_21 (by decide) (fun c_21 => ?_) (fun c_21 => ?_)
      · refine lv_iconst (v := 0) hx hb dX3_leastAhead_38 (by decide) ?_
        refine lv_istore (lv' := [(4, .int 0), (0, .ref b0), (1, .int be), (2, .int li), (3, .int i)]) hx hb dX3_leastAhead_39 hl (by decide) rfl (fun ls hl => ?_)
        refine lv_aload_n hx hb dX3_leastAhead_41 rfl (lv_at hl 1 rfl) ?_
        refine va_get (D := (dC, dI)) (ci := 4) (v := .ref b1) (C := RX3) (T := TX3) (N := 4) hx hb hts (by decide +kernel) hown hK hP 0 rfl rfl 0 (by decide) (hts (.fieldLink RX3 11 "CobolDebugger$Stops" "kinds" "[I") (by decide +kernel)) (fun _ h9 => h9) rfl dX3_leastAhead_42 ?_
        refine lv_iload_n hx hb dX3_leastAhead_45 rfl (lv_at hl 4 rfl) ?_
        refine va_iald hx hb hK hP 1 0 rfl rfl (i := i) hin dX3_leastAhead_46 ?_
        refine lv_iconst (v := 1) hx hb dX3_leastAhead_47 (by decide) ?_
        refine lv_icmp_ne (tgt := 65) hx hb dX3_leastAhead_48 (by decide) (fun c_48 => ?_) (fun c_48 => ?_)
        · refine lv_iconst (v := 0) hx hb dX3_leastAhead_65 (by decide) ?_
          refine lv_istore (lv' := [(5, .int 0), (4, .int 0), (0, .ref b0), (1, .int be), (2, .int li), (3, .int i)]) hx hb dX3_leastAhead_66 hl (by decide) rfl (fun ls hl => ?_)
          refine lv_iload hx hb dX3_leastAhead_68 (lv_at hl 1 rfl) ?_
          refine lv_if_ne (tgt := 78) hx hb dX3_leastAhead_70 (by decide) (fun c_70 => ?_) (fun c_70 => ?_)
          · exact absurd c_70 (by decide)
          · refine lv_iload hx hb dX3_leastAhead_73 (lv_at hl 0 rfl) ?_
            refine lv_if_eq (tgt := 82) hx hb dX3_leastAhead_75 (by decide) (fun c_75 => ?_) (fun c_75 => ?_)
            · obtain ⟨i_3, e_i_3⟩ : ∃ y : Int32, y = i + 1 := ⟨_, rfl⟩
              refine lv_iinc (v := i_3) (lv' := [(3, .int i_3), (5, .int 0), (4, .int 0), (0, .ref b0), (1, .int be), (2, .int li)]) hx hb dX3_leastAhead_82 hl (k := 5) rfl (by rw [e_i_3]; rfl) (by decide) rfl (fun ls hl => ?_)
              refine lv_goto (tgt := 2) hx hb dX3_leastAhead_85 (by decide) ?_
              exact ih i_3 _ _ _ ⟨lv_sub hl [3, 4, 5, 0] rfl, hP, hS, by rw [e_i_3, i_p1 (by omega) (by omega)]; omega⟩ (by rw [e_i_3, i_p1 (by omega) (by omega)]; omega)
            · exact absurd c_75 (by decide)
        · refine lv_aload_n hx hb dX3_leastAhead_51 rfl (lv_at hl 1 rfl) ?_
          refine va_get (D := (dC, dI)) (ci := 4) (v := .ref b2) (C := RX3) (T := TX3) (N := 4) hx hb hts (by decide +kernel) hown hK hP 0 rfl rfl 1 (by decide) (hts (.fieldLink RX3 15 "CobolDebugger$Stops" "ofs" "[I") (by decide +kernel)) (fun _ h9 => h9) rfl dX3_leastAhead_52 ?_
          refine lv_iload_n hx hb dX3_leastAhead_55 rfl (lv_at hl 4 rfl) ?_
          refine va_iald hx hb hK hP 2 1 rfl rfl (i := i) hin dX3_leastAhead_56 ?_
          refine lv_iload_n hx hb dX3_leastAhead_57 rfl (lv_at hl 3 rfl) ?_
          refine lv_icmp_ne (tgt := 65) hx hb dX3_leastAhead_58 (by decide) (fun c_58 => ?_) (fun c_58 => ?_)
          · refine lv_iconst (v := 0) hx hb dX3_leastAhead_65 (by decide) ?_
            refine lv_istore (lv' := [(5, .int 0), (4, .int 0), (0, .ref b0), (1, .int be), (2, .int li), (3, .int i)]) hx hb dX3_leastAhead_66 hl (by decide) rfl (fun ls hl => ?_)
            refine lv_iload hx hb dX3_leastAhead_68 (lv_at hl 1 rfl) ?_
            refine lv_if_ne (tgt := 78) hx hb dX3_leastAhead_70 (by decide) (fun c_70 => ?_) (fun c_70 => ?_)
            · exact absurd c_70 (by decide)
            · refine lv_iload hx hb dX3_leastAhead_73 (lv_at hl 0 rfl) ?_
              refine lv_if_eq (tgt := 82) hx hb dX3_leastAhead_75 (by decide) (fun c_75 => ?_) (fun c_75 => ?_)
              · obtain ⟨i_4, e_i_4⟩ : ∃ y : Int32, y = i + 1 := ⟨_, rfl⟩
                refine lv_iinc (v := i_4) (lv' := [(3, .int i_4), (5, .int 0), (4, .int 0), (0, .ref b0), (1, .int be), (2, .int li)]) hx hb dX3_leastAhead_82 hl (k := 5) rfl (by rw [e_i_4]; rfl) (by decide) rfl (fun ls hl => ?_)
                refine lv_goto (tgt := 2) hx hb dX3_leastAhead_85 (by decide) ?_
                exact ih i_4 _ _ _ ⟨lv_sub hl [3, 4, 5, 0] rfl, hP, hS, by rw [e_i_4, i_p1 (by omega) (by omega)]; omega⟩ (by rw [e_i_4, i_p1 (by omega) (by omega)]; omega)
              · exact absurd c_75 (by decide)
          · refine lv_iconst (v := 1) hx hb dX3_leastAhead_61 (by decide) ?_
            refine lv_goto (tgt := 66) hx hb dX3_leastAhead_62 (by decide) ?_
            refine lv_istore (lv' := [(5, .int 1), (4, .int 0), (0, .ref b0), (1, .int be), (2, .int li), (3, .int i)]) hx hb dX3_leastAhead_66 hl (by decide) rfl (fun ls hl => ?_)
            refine lv_iload hx hb dX3_leastAhead_68 (lv_at hl 1 rfl) ?_
            refine lv_if_ne (tgt := 78) hx hb dX3_leastAhead_70 (by decide) (fun c_70 => ?_) (fun c_70 => ?_)
            · exact absurd c_70 (by decide)
            · refine lv_iload hx hb dX3_leastAhead_73 (lv_at hl 0 rfl) ?_
              refine lv_if_eq (tgt := 82) hx hb dX3_leastAhead_75 (by decide) (fun c_75 => ?_) (fun c_75 => ?_)
              · exact absurd c_75 (by decide)
              · refine lv_iload_n hx hb dX3_leastAhead_78 rfl (lv_at hl 5 rfl) ?_
                refine lv_iconst (v := 1) hx hb dX3_leastAhead_79 (by decide) ?_
                refine lv_iadd hx hb dX3_leastAhead_80 ?_
                exact W.iret (v := i + 1) hx hb hr (fun t ht hW => ⟨⟨(i + 1), (), rfl, trivial, trivial⟩, hS.F ht⟩) hS.2.2 dX3_leastAhead_81
      · refine lv_aload_n hx hb dX3_leastAhead_24 rfl (lv_at hl 0 rfl) ?_
        refine va_get (D := (dC, dI)) (ci := 4) (v := .ref b2) (C := RX3) (T := TX3) (N := 4) hx hb hts (by decide +kernel) hown hK hP 0 rfl rfl 1 (by decide) (hts (.fieldLink RX3 15 "CobolDebugger$Stops" "ofs" "[I") (by decide +kernel)) (fun _ h9 => h9) rfl dX3_leastAhead_25 ?_
        refine lv_iload_n hx hb dX3_leastAhead_28 rfl (lv_at hl 3 rfl) ?_
        refine va_iald hx hb hK hP 2 1 rfl rfl (i := i) hin dX3_leastAhead_29 ?_
        refine lv_iload_n hx hb dX3_leastAhead_30 rfl (lv_at hl 1 rfl) ?_
        refine lv_icmp_ne (tgt := 38) hx hb dX3_leastAhead_31 (by decide) (fun c_31 => ?_) (fun c_31 => ?_)
        · refine lv_iconst (v := 0) hx hb dX3_leastAhead_38 (by decide) ?_
          refine lv_istore (lv' := [(4, .int 0), (0, .ref b0), (1, .int be), (2, .int li), (3, .int i)]) hx hb dX3_leastAhead_39 hl (by decide) rfl (fun ls hl => ?_)
          refine lv_aload_n hx hb dX3_leastAhead_41 rfl (lv_at hl 1 rfl) ?_
          refine va_get (D := (dC, dI)) (ci := 4) (v := .ref b1) (C := RX3) (T := TX3) (N := 4) hx hb hts (by decide +kernel) hown hK hP 0 rfl rfl 0 (by decide) (hts (.fieldLink RX3 11 "CobolDebugger$Stops" "kinds" "[I") (by decide +kernel)) (fun _ h9 => h9) rfl dX3_leastAhead_42 ?_
          refine lv_iload_n hx hb dX3_leastAhead_45 rfl (lv_at hl 4 rfl) ?_
          refine va_iald hx hb hK hP 1 0 rfl rfl (i := i) hin dX3_leastAhead_46 ?_
          refine lv_iconst (v := 1) hx hb dX3_leastAhead_47 (by decide) ?_
          refine lv_icmp_ne (tgt := 65) hx hb dX3_leastAhead_48 (by decide) (fun c_48 => ?_) (fun c_48 => ?_)
          · refine lv_iconst (v := 0) hx hb dX3_leastAhead_65 (by decide) ?_
            refine lv_istore (lv' := [(5, .int 0), (4, .int 0), (0, .ref b0), (1, .int be), (2, .int li), (3, .int i)]) hx hb dX3_leastAhead_66 hl (by decide) rfl (fun ls hl => ?_)
            refine lv_iload hx hb dX3_leastAhead_68 (lv_at hl 1 rfl) ?_
            refine lv_if_ne (tgt := 78) hx hb dX3_leastAhead_70 (by decide) (fun c_70 => ?_) (fun c_70 => ?_)
            · exact absurd c_70 (by decide)
            · refine lv_iload hx hb dX3_leastAhead_73 (lv_at hl 0 rfl) ?_
              refine lv_if_eq (tgt := 82) hx hb dX3_leastAhead_75 (by decide) (fun c_75 => ?_) (fun c_75 => ?_)
              · obtain ⟨i_5, e_i_5⟩ : ∃ y : Int32, y = i + 1 := ⟨_, rfl⟩
                refine lv_iinc (v := i_5) (lv' := [(3, .int i_5), (5, .int 0), (4, .int 0), (0, .ref b0), (1, .int be), (2, .int li)]) hx hb dX3_leastAhead_82 hl (k := 5) rfl (by rw [e_i_5]; rfl) (by decide) rfl (fun ls hl => ?_)
                refine lv_goto (tgt := 2) hx hb dX3_leastAhead_85 (by decide) ?_
                exact ih i_5 _ _ _ ⟨lv_sub hl [3, 4, 5, 0] rfl, hP, hS, by rw [e_i_5, i_p1 (by omega) (by omega)]; omega⟩ (by rw [e_i_5, i_p1 (by omega) (by omega)]; omega)
              · exact absurd c_75 (by decide)
          · refine lv_aload_n hx hb dX3_leastAhead_51 rfl (lv_at hl 1 rfl) ?_
            refine va_get (D := (dC, dI)) (ci := 4) (v := .ref b2) (C := RX3) (T := TX3) (N := 4) hx hb hts (by decide +kernel) hown hK hP 0 rfl rfl 1 (by decide) (hts (.fieldLink RX3 15 "CobolDebugger$Stops" "ofs" "[I") (by decide +kernel)) (fun _ h9 => h9) rfl dX3_leastAhead_52 ?_
            refine lv_iload_n hx hb dX3_leastAhead_55 rfl (lv_at hl 4 rfl) ?_
            refine va_iald hx hb hK hP 2 1 rfl rfl (i := i) hin dX3_leastAhead_56 ?_
            refine lv_iload_n hx hb dX3_leastAhead_57 rfl (lv_at hl 3 rfl) ?_
            refine lv_icmp_ne (tgt := 65) hx hb dX3_leastAhead_58 (by decide) (fun c_58 => ?_) (fun c_58 => ?_)
            · refine lv_iconst (v := 0) hx hb dX3_leastAhead_65 (by decide) ?_
              refine lv_istore (lv' := [(5, .int 0), (4, .int 0), (0, .ref b0), (1, .int be), (2, .int li), (3, .int i)]) hx hb dX3_leastAhead_66 hl (by decide) rfl (fun ls hl => ?_)
              refine lv_iload hx hb dX3_leastAhead_68 (lv_at hl 1 rfl) ?_
              refine lv_if_ne (tgt := 78) hx hb dX3_leastAhead_70 (by decide) (fun c_70 => ?_) (fun c_70 => ?_)
              · exact absurd c_70 (by decide)
              · refine lv_iload hx hb dX3_leastAhead_73 (lv_at hl 0 rfl) ?_
                refine lv_if_eq (tgt := 82) hx hb dX3_leastAhead_75 (by decide) (fun c_75 => ?_) (fun c_75 => ?_)
                · obtain ⟨i_6, e_i_6⟩ : ∃ y : Int32, y = i + 1 := ⟨_, rfl⟩
                  refine lv_iinc (v := i_6) (lv' := [(3, .int i_6), (5, .int 0), (4, .int 0), (0, .ref b0), (1, .int be), (2, .int li)]) hx hb dX3_leastAhead_82 hl (k := 5) rfl (by rw [e_i_6]; rfl) (by decide) rfl (fun ls hl => ?_)
                  refine lv_goto (tgt := 2) hx hb dX3_leastAhead_85 (by decide) ?_
                  exact ih i_6 _ _ _ ⟨lv_sub hl [3, 4, 5, 0] rfl, hP, hS, by rw [e_i_6, i_p1 (by omega) (by omega)]; omega⟩ (by rw [e_i_6, i_p1 (by omega) (by omega)]; omega)
                · exact absurd c_75 (by decide)
            · refine lv_iconst (v := 1) hx hb dX3_leastAhead_61 (by decide) ?_
              refine lv_goto (tgt := 66) hx hb dX3_leastAhead_62 (by decide) ?_
              refine lv_istore (lv' := [(5, .int 1), (4, .int 0), (0, .ref b0), (1, .int be), (2, .int li), (3, .int i)]) hx hb dX3_leastAhead_66 hl (by decide) rfl (fun ls hl => ?_)
              refine lv_iload hx hb dX3_leastAhead_68 (lv_at hl 1 rfl) ?_
              refine lv_if_ne (tgt := 78) hx hb dX3_leastAhead_70 (by decide) (fun c_70 => ?_) (fun c_70 => ?_)
              · exact absurd c_70 (by decide)
              · refine lv_iload hx hb dX3_leastAhead_73 (lv_at hl 0 rfl) ?_
                refine lv_if_eq (tgt := 82) hx hb dX3_leastAhead_75 (by decide) (fun c_75 => ?_) (fun c_75 => ?_)
                · exact absurd c_75 (by decide)
                · refine lv_iload_n hx hb dX3_leastAhead_78 rfl (lv_at hl 5 rfl) ?_
                  refine lv_iconst (v := 1) hx hb dX3_leastAhead_79 (by decide) ?_
                  refine lv_iadd hx hb dX3_leastAhead_80 ?_
                  exact W.iret (v := i + 1) hx hb hr (fun t ht hW => ⟨⟨(i + 1), (), rfl, trivial, trivial⟩, hS.F ht⟩) hS.2.2 dX3_leastAhead_81
        · refine lv_iconst (v := 1) hx hb dX3_leastAhead_34 (by decide) ?_
          refine lv_goto (tgt := 39) hx hb dX3_leastAhead_35 (by decide) ?_
          refine lv_istore (lv' := [(4, .int 1), (0, .ref b0), (1, .int be), (2, .int li), (3, .int i)]) hx hb dX3_leastAhead_39 hl (by decide) rfl (fun ls hl => ?_)
          refine lv_aload_n hx hb dX3_leastAhead_41 rfl (lv_at hl 1 rfl) ?_
          refine va_get (D := (dC, dI)) (ci := 4) (v := .ref b1) (C := RX3) (T := TX3) (N := 4) hx hb hts (by decide +kernel) hown hK hP 0 rfl rfl 0 (by decide) (hts (.fieldLink RX3 11 "CobolDebugger$Stops" "kinds" "[I") (by decide +kernel)) (fun _ h9 => h9) rfl dX3_leastAhead_42 ?_
          refine lv_iload_n hx hb dX3_leastAhead_45 rfl (lv_at hl 4 rfl) ?_
          refine va_iald hx hb hK hP 1 0 rfl rfl (i := i) hin dX3_leastAhead_46 ?_
          refine lv_iconst (v := 1) hx hb dX3_leastAhead_47 (by decide) ?_
          refine lv_icmp_ne (tgt := 65) hx hb dX3_leastAhead_48 (by decide) (fun c_48 => ?_) (fun c_48 => ?_)
          · refine lv_iconst (v := 0) hx hb dX3_leastAhead_65 (by decide) ?_
            refine lv_istore (lv' := [(5, .int 0), (4, .int 1), (0, .ref b0), (1, .int be), (2, .int li), (3, .int i)]) hx hb dX3_leastAhead_66 hl (by decide) rfl (fun ls hl => ?_)
            refine lv_iload hx hb dX3_leastAhead_68 (lv_at hl 1 rfl) ?_
            refine lv_if_ne (tgt := 78) hx hb dX3_leastAhead_70 (by decide) (fun c_70 => ?_) (fun c_70 => ?_)
            · refine lv_iload_n hx hb dX3_leastAhead_78 rfl (lv_at hl 5 rfl) ?_
              refine lv_iconst (v := 1) hx hb dX3_leastAhead_79 (by decide) ?_
              refine lv_iadd hx hb dX3_leastAhead_80 ?_
              exact W.iret (v := i + 1) hx hb hr (fun t ht hW => ⟨⟨(i + 1), (), rfl, trivial, trivial⟩, hS.F ht⟩) hS.2.2 dX3_leastAhead_81
            · exact absurd c_70 (by decide)
          · refine lv_aload_n hx hb dX3_leastAhead_51 rfl (lv_at hl 1 rfl) ?_
            refine va_get (D := (dC, dI)) (ci := 4) (v := .ref b2) (C := RX3) (T := TX3) (N := 4) hx hb hts (by decide +kernel) hown hK hP 0 rfl rfl 1 (by decide) (hts (.fieldLink RX3 15 "CobolDebugger$Stops" "ofs" "[I") (by decide +kernel)) (fun _ h9 => h9) rfl dX3_leastAhead_52 ?_
            refine lv_iload_n hx hb dX3_leastAhead_55 rfl (lv_at hl 4 rfl) ?_
            refine va_iald hx hb hK hP 2 1 rfl rfl (i := i) hin dX3_leastAhead_56 ?_
            refine lv_iload_n hx hb dX3_leastAhead_57 rfl (lv_at hl 3 rfl) ?_
            refine lv_icmp_ne (tgt := 65) hx hb dX3_leastAhead_58 (by decide) (fun c_58 => ?_) (fun c_58 => ?_)
            · refine lv_iconst (v := 0) hx hb dX3_leastAhead_65 (by decide) ?_
              refine lv_istore (lv' := [(5, .int 0), (4, .int 1), (0, .ref b0), (1, .int be), (2, .int li), (3, .int i)]) hx hb dX3_leastAhead_66 hl (by decide) rfl (fun ls hl => ?_)
              refine lv_iload hx hb dX3_leastAhead_68 (lv_at hl 1 rfl) ?_
              refine lv_if_ne (tgt := 78) hx hb dX3_leastAhead_70 (by decide) (fun c_70 => ?_) (fun c_70 => ?_)
              · refine lv_iload_n hx hb dX3_leastAhead_78 rfl (lv_at hl 5 rfl) ?_
                refine lv_iconst (v := 1) hx hb dX3_leastAhead_79 (by decide) ?_
                refine lv_iadd hx hb dX3_leastAhead_80 ?_
                exact W.iret (v := i + 1) hx hb hr (fun t ht hW => ⟨⟨(i + 1), (), rfl, trivial, trivial⟩, hS.F ht⟩) hS.2.2 dX3_leastAhead_81
              · exact absurd c_70 (by decide)
            · refine lv_iconst (v := 1) hx hb dX3_leastAhead_61 (by decide) ?_
              refine lv_goto (tgt := 66) hx hb dX3_leastAhead_62 (by decide) ?_
              refine lv_istore (lv' := [(5, .int 1), (4, .int 1), (0, .ref b0), (1, .int be), (2, .int li), (3, .int i)]) hx hb dX3_leastAhead_66 hl (by decide) rfl (fun ls hl => ?_)
              refine lv_iload hx hb dX3_leastAhead_68 (lv_at hl 1 rfl) ?_
              refine lv_if_ne (tgt := 78) hx hb dX3_leastAhead_70 (by decide) (fun c_70 => ?_) (fun c_70 => ?_)
              · refine lv_iload_n hx hb dX3_leastAhead_78 rfl (lv_at hl 5 rfl) ?_
                refine lv_iconst (v := 1) hx hb dX3_leastAhead_79 (by decide) ?_
                refine lv_iadd hx hb dX3_leastAhead_80 ?_
                exact W.iret (v := i + 1) hx hb hr (fun t ht hW => ⟨⟨(i + 1), (), rfl, trivial, trivial⟩, hS.F ht⟩) hS.2.2 dX3_leastAhead_81
              · exact absurd c_70 (by decide)

set_option maxHeartbeats 4000000 in
set_option maxRecDepth 100000 in
theorem c_X3_leastBehind (l : Launch) (dC : Nat → ClassId) (dI : Nat → Nat → Nat) (b0 b1 b2 b3 a0 a1 a2 a3 : Nat) (kb1 kb2 kb3 ka1 ka2 ka3 : ClassId) (kd of cd us ss bs : Nat → Int32) (sm md : Int32) (ch : Int32) (hsm : sm.toInt ≤ 20) (hst : ∀ j : Nat, (j : Int) < sm.toInt → kd j = 3 → 0 ≤ (of j).toInt ∧ (of j).toInt < md.toInt) (hit : itI md ss) (hfb : fitB bs) : Met l yX3_leastBehind wsX3_leastBehind ({ frames := 4, cells := 0, slots := 0, locals := 89 }) (va_Pc [.ref b0, .int ch, .ref a0] (fun U => va_P (dC, dI) vwCl [(b0, .inr (4, [.ref b1, .ref b2, .ref b3, .int sm])), (b1, .inl (kb1, 20, .inl kd)), (b2, .inl (kb2, 20, .inl of)), (b3, .inl (kb3, 20, .inl cd)), (a0, .inr (1, [.ref a1, .ref a2, .ref a3, .int md])), (a1, .inl (ka1, 30, .inl us)), (a2, .inl (ka2, 30, .inl ss)), (a3, .inl (ka3, 270, .inl bs))] U.heap ∧ va_K (dC, dI) vwCl [(kb1, .int), (kb2, .int), (kb3, .int), (ka1, .int), (ka2, .int), (ka3, .byte)] U ∧ nW U)) (va_Qi (fun (r : Int32) (_ : Unit) => True) (fun _ _ => True) (fun _ => False)) 0 0 (fun _ => False) := by
  refine Met.ofW (cc := cX3_leastBehind) (maxL := 6) (ret := (some .int)) (by decide) rfl ?_
  intro p e s m args below meth c s₁ B hml hv
  obtain ⟨rfl, hP, hK, hN⟩ := hv
  have hx := B.exec
  have hb := B.bytes
  have hr := B.returns
  have hts := atoms_spec (ws := wsX3_leastBehind) B.pre
  have hown : s.vm.findClass RX3 = some m.cls := findClass_of_methodNamed B.named
  have hlocks := B.notSynchronized
  have hS : va_S (fun _ => False) s.heap s.heap [] := va_S.rf
  have hl := lv_entry ([.ref b0, .int ch, .ref a0]) (n := 6) (Nat.le_of_ble_eq_true rfl)
  rw [lg_entry_eq]
  generalize (lg_sl ([.ref b0, .int ch, .ref a0]) ++ List.replicate (6 - (lg_sl ([.ref b0, .int ch, .ref a0])).length) Slot.unset).toArray = ls at hl ⊢
  have hl : lv_has ls 6 [(0, .ref b0), (1, .int ch), (2, .ref a0)] := hl
  refine lv_iconst (v := 0) hx hb dX3_leastBehind_0 (by decide) ?_
  refine lv_istore_n (lv' := [(3, .int 0), (0, .ref b0), (1, .int ch), (2, .ref a0)]) hx hb dX3_leastBehind_1 rfl hl (by decide) rfl (fun ls hl => ?_)
  refine wl1 (μ := fun (i : Int32) => (sm.toInt - i.toInt).toNat) (I := fun (i : Int32) (ls : Array Slot) (H : Heap) (locs : List Loc) => lv_has ls 6 [(0, .ref b0), (1, .int ch), (2, .ref a0), (3, .int i)] ∧ va_P (dC, dI) vwCl [(b0, .inr (4, [.ref b1, .ref b2, .ref b3, .int sm])), (b1, .inl (kb1, 20, .inl kd)), (b2, .inl (kb2, 20, .inl of)), (b3, .inl (kb3, 20, .inl cd)), (a0, .inr (1, [.ref a1, .ref a2, .ref a3, .int md])), (a1, .inl (ka1, 30, .inl us)), (a2, .inl (ka2, 30, .inl ss)), (a3, .inl (ka3, 270, .inl bs))] H ∧ va_S (fun _ => False) s.heap H locs ∧ (0 ≤ i.toInt)) (fun i ls H locs hI ih => ?_) 0 ls _ _ ⟨lv_sub hl [1, 2, 3, 0] rfl, hP, hS, by decide⟩
  obtain ⟨hl, hP, hS, hi0⟩ := hI
  refine lv_iload_n hx hb dX3_leastBehind_2 rfl (lv_at hl 3 rfl) ?_
  refine lv_aload_n hx hb dX3_leastBehind_3 rfl (lv_at hl 0 rfl) ?_
  refine va_get (D := (dC, dI)) (ci := 4) (v := .int sm) (C := RX3) (T := TX3) (N := 4) hx hb hts (by decide +kernel) hown hK hP 0 rfl rfl 3 (by decide) (hts (.fieldLink RX3 21 "CobolDebugger$Stops" "made" "I") (by decide +kernel)) (fun _ h9 => h9) rfl dX3_leastBehind_4 ?_
  refine lv_icmp_ge (tgt := 93) hx hb dX3_leastBehind_7 (by decide) (fun c_7 => ?_) (fun c_7 => ?_)
  · refine lv_iconst (v := 0) hx hb dX3_leastBehind_93 (by decide) ?_
    exact W.iret (v := 0) hx hb hr (fun t ht hW => ⟨⟨0, (), rfl, trivial, trivial⟩, hS.F ht⟩) hS.2.2 dX3_leastBehind_94
  · have hin : vp_in i 20 := ix_mr hsm hi0 c_7
    have hi9 := n_lt c_7
    refine lv_aload_n hx hb dX3_leastBehind_10 rfl (lv_at hl 0 rfl) ?_
    refine va_get (D := (dC, dI)) (ci := 4) (v := .ref b1) (C := RX3) (T := TX3) (N := 4) hx hb hts (by decide +kernel) hown hK hP 0 rfl rfl 0 (by decide) (hts (.fieldLink RX3 11 "CobolDebugger$Stops" "kinds" "[I") (by decide +kernel)) (fun _ h9 => h9) rfl dX3_leastBehind_11 ?_
    refine lv_iload_n hx hb dX3_leastBehind_14 rfl (lv_at hl 3 rfl) ?_
    refine va_iald hx hb hK hP 1 0 rfl rfl (i := i) hin dX3_leastBehind_15 ?_
    refine lv_iconst (v := 2) hx hb dX3_leastBehind_16 (by decide) ?_
    refine lv_icmp_ne (tgt := 34) hx hb dX3_leastBehind_17 (by decide) (fun c_17 => ?_) (fun c_17 => ?_)
    · refine lv_iconst (v := 0) hx hb dX3_leastBehind_34 (by decide) ?_
      refine lv_istore (lv' := [(4, .int 0), (0, .ref b0), (1, .int ch), (2, .ref a0), (3, .int i)]) hx hb dX3_leastBehind_35 hl (by decide) rfl (fun ls hl => ?_)
      refine lv_aload_n hx hb dX3_leastBehind_37 rfl (lv_at hl 1 rfl) ?_
      refine va_get (D := (dC, dI)) (ci := 4) (v := .ref b1) (C := RX3) (T := TX3) (N := 4) hx hb hts (by decide +kernel) hown hK hP 0 rfl rfl 0 (by decide) (hts (.fieldLink RX3 11 "CobolDebugger$Stops" "kinds" "[I") (by decide +kernel)) (fun _ h9 => h9) rfl dX3_leastBehind_38 ?_
      refine lv_iload_n hx hb dX3_leastBehind_41 rfl (lv_at hl 4 rfl) ?_
      refine va_iald hx hb hK hP 1 0 rfl rfl (i := i) hin dX3_leastBehind_42 ?_
      refine lv_iconst (v := 3) hx hb dX3_leastBehind_43 (by decide) ?_
      refine lv_icmp_ne (tgt := 70) hx hb dX3_leastBehind_44 (by decide) (fun c_44 => ?_) (fun c_44 => ?_)
      · refine lv_iconst (v := 0) hx hb dX3_leastBehind_70 (by decide) ?_
        refine lv_istore (lv' := [(5, .int 0), (4, .int 0), (0, .ref b0), (1, .int ch), (2, .ref a0), (3, .int i)]) hx hb dX3_leastBehind_71 hl (by decide) rfl (fun ls hl => ?_)
        refine lv_iload hx hb dX3_leastBehind_73 (lv_at hl 1 rfl) ?_
        refine lv_if_ne (tgt := 83) hx hb dX3_leastBehind_75 (by decide) (fun c_75 => ?_) (fun c_75 => ?_)
        · exact absurd c_75 (by decide)
        · refine lv_iload hx hb dX3_leastBehind_78 (lv_at hl 0 rfl) ?_
          refine lv_if_eq (tgt := 87) hx hb dX3_leastBehind_80 (by decide) (fun c_80 => ?_) (fun c_80 => ?_)
          · obtain ⟨i_1, e_i_1⟩ : ∃ y : Int32, y = i + 1 := ⟨_, rfl⟩
            refine lv_iinc (v := i_1) (lv' := [(3, .int i_1), (5, .int 0), (4, .int 0), (0, .ref b0), (1, .int ch), (2, .ref a0)]) hx hb dX3_leastBehind_87 hl (k := 5) rfl (by rw [e_i_1]; rfl) (by decide) rfl (fun ls hl => ?_)
            refine lv_goto (tgt := 2) hx hb dX3_leastBehind_90 (by decide) ?_
            exact ih i_1 _ _ _ ⟨lv_sub hl [3, 4, 5, 0] rfl, hP, hS, by rw [e_i_1, i_p1 (by omega) (by omega)]; omega⟩ (by rw [e_i_1, i_p1 (by omega) (by omega)]; omega)
          · exact absurd c_80 (by decide)
      · have hof := hst i.toNatClampNeg (by rw [cl_eq]; omega) c_44
        refine lv_aload_n hx hb dX3_leastBehind_47 rfl (lv_at hl 3 rfl) ?_
        refine lv_aload_n hx hb dX3_leastBehind_48 rfl (lv_at hl 1 rfl) ?_
        refine va_get (D := (dC, dI)) (ci := 4) (v := .ref b2) (C := RX3) (T := TX3) (N := 4) hx hb hts (by decide +kernel) hown hK hP 0 rfl rfl 1 (by decide) (hts (.fieldLink RX3 15 "CobolDebugger$Stops" "ofs" "[I") (by decide +kernel)) (fun _ h9 => h9) rfl dX3_leastBehind_49 ?_
        refine lv_iload_n hx hb dX3_leastBehind_52 rfl (lv_at hl 4 rfl) ?_
        refine va_iald hx hb hK hP 2 1 rfl rfl (i := i) hin dX3_leastBehind_53 ?_
        refine lv_aload_n hx hb dX3_leastBehind_54 rfl (lv_at hl 1 rfl) ?_
        refine va_get (D := (dC, dI)) (ci := 4) (v := .ref b3) (C := RX3) (T := TX3) (N := 4) hx hb hts (by decide +kernel) hown hK hP 0 rfl rfl 2 (by decide) (hts (.fieldLink RX3 18 "CobolDebugger$Stops" "conditions" "[I") (by decide +kernel)) (fun _ h9 => h9) rfl dX3_leastBehind_55 ?_
        refine lv_iload_n hx hb dX3_leastBehind_58 rfl (lv_at hl 4 rfl) ?_
        refine va_iald hx hb hK hP 3 2 rfl rfl (i := i) hin dX3_leastBehind_59 ?_
        have hPc := hP.sub (ws' := [(a0, .inr (1, [.ref a1, .ref a2, .ref a3, .int md])), (a1, .inl (ka1, 30, .inl us)), (a2, .inl (ka2, 30, .inl ss)), (a3, .inl (ka3, 270, .inl bs))]) [4, 5, 6, 7] rfl
        have hKc := hK.sub (tys' := [(ka1, .int), (ka2, .int), (ka3, .byte)]) [3, 4, 5] rfl
        refine va_calli (va_runS (As := [.ref a0, .int (of i.toNatClampNeg), .int (cd i.toNatClampNeg)]) (rest := []) ⟨hx, hb, hml, hown, hts⟩ (c_X3_reaches l dC dI a0 a1 a2 a3 ka1 ka2 ka3 us ss bs md (of i.toNatClampNeg) (cd i.toNatClampNeg) (it_in hit hof.1 hof.2) ((it_s hit hof.1 hof.2).1) ((it_s hit hof.1 hof.2).2) (hfb)) (va_cwS 3 hts gX3_leastBehind_X3_reaches rfl rfl rfl (by decide +kernel) ⟨Nat.le_of_ble_eq_true rfl, Nat.le_of_ble_eq_true rfl⟩) ⟨fun a U g mk q => by obtain ⟨q0, qP, qK, qN⟩ := q; exact ⟨q0, qP, va_K.moved (u := U) (U := U.calling g mk a) (Vm.Alike.refl U.vm) qK, nW_same qN⟩, fun U hU hW => ⟨rfl, by rw [hU]; exact hPc, va_K.moved hW.alike hKc, nW_warm hW hN⟩⟩ rfl rfl hl.1 rfl (lv_room (Nat.le_of_ble_eq_true rfl)) dX3_leastBehind_60 ⟨Nat.zero_le _, Nat.zero_le _⟩) hS (fun q _ h => h.elim) (fun q h => h.elim) (fun r_60 u t H1 locs ht hvm w_60 hB hz1 hk1 hS => ?_)
        try dsimp only at w_60
        have hP := rd_keep hP hk1
        clear hB hk1 hz1 ht hvm u t
        generalize H1 = H at hP hS ⊢
        refine lv_if_eq (tgt := 70) hx hb dX3_leastBehind_63 (by decide) (fun c_63 => ?_) (fun c_63 => ?_)
        · refine lv_iconst (v := 0) hx hb dX3_leastBehind_70 (by decide) ?_
          refine lv_istore (lv' := [(5, .int 0), (4, .int 0), (0, .ref b0), (1, .int ch), (2, .ref a0), (3, .int i)]) hx hb dX3_leastBehind_71 hl (by decide) rfl (fun ls hl => ?_)
          refine lv_iload hx hb dX3_leastBehind_73 (lv_at hl 1 rfl) ?_
          refine lv_if_ne (tgt := 83) hx hb dX3_leastBehind_75 (by decide) (fun c_75 => ?_) (fun c_75 => ?_)
          · exact absurd c_75 (by decide)
          · refine lv_iload hx hb dX3_leastBehind_78 (lv_at hl 0 rfl) ?_
            refine lv_if_eq (tgt := 87) hx hb dX3_leastBehind_80 (by decide) (fun c_80 => ?_) (fun c_80 => ?_)
            · obtain ⟨i_2, e_i_2⟩ : ∃ y : Int32, y = i + 1 := ⟨_, rfl⟩
              refine lv_iinc (v := i_2) (lv' := [(3, .int i_2), (5, .int 0), (4, .int 0), (0, .ref b0), (1, .int ch), (2, .ref a0)]) hx hb dX3_leastBehind_87 hl (k := 5) rfl (by rw [e_i_2]; rfl) (by decide) rfl (fun ls hl => ?_)
              refine lv_goto (tgt := 2) hx hb dX3_leastBehind_90 (by decide) ?_
              exact ih i_2 _ _ _ ⟨lv_sub hl [3, 4, 5, 0] rfl, hP, hS, by rw [e_i_2, i_p1 (by omega) (by omega)]; omega⟩ (by rw [e_i_2, i_p1 (by omega) (by omega)]; omega)
            · exact absurd c_80 (by decide)
        · refine lv_iconst (v := 1) hx hb dX3_leastBehind_66 (by decide) ?_
          refine lv_goto (tgt := 71) hx hb dX3_leastBehind_67 (by decide) ?_
          refine lv_istore (lv' := [(5, .int 1), (4, .int 0), (0, .ref b0), (1, .int ch), (2, .ref a0), (3, .int i)]) hx hb dX3_leastBehind_71 hl (by decide) rfl (fun ls hl => ?_)
          refine lv_iload hx hb dX3_leastBehind_73 (lv_at hl 1 rfl) ?_
          refine lv_if_ne (tgt := 83) hx hb dX3_leastBehind_75 (by decide) (fun c_75 => ?_) (fun c_75 => ?_)
          · exact absurd c_75 (by decide)
          · refine lv_iload hx hb dX3_leastBehind_78 (lv_at hl 0 rfl) ?_
            refine lv_if_eq (tgt := 87) hx hb dX3_leastBehind_80 (by decide) (fun c_80 => ?_) (fun c_80 => ?_)
            · exact absurd c_80 (by decide)
            · refine lv_iload_n hx hb dX3_leastBehind_83 rfl (lv_at hl 5 rfl) ?_
              refine lv_iconst (v := 1) hx hb dX3_leastBehind_84 (by decide) ?_
              refine lv_iadd hx hb dX3_leastBehind_85 ?_
              exact W.iret (v := i + 1) hx hb hr (fun t ht hW => ⟨⟨(i + 1), (), rfl, trivial, trivial⟩, hS.F ht⟩) hS.2.2 dX3_leastBehind_86
    · refine lv_aload_n hx hb dX3_leastBehind_20 rfl (lv_at hl 0 rfl) ?_
      refine va_get (D := (dC, dI)) (ci := 4) (v := .ref b2) (C := RX3) (T := TX3) (N := 4) hx hb hts (by decide +kernel) hown hK hP 0 rfl rfl 1 (by decide) (hts (.fieldLink RX3 15 "CobolDebugger$Stops" "ofs" "[I") (by decide +kernel)) (fun _ h9 => h9) rfl dX3_leastBehind_21 ?_
      refine lv_iload_n hx hb dX3_leastBehind_24 rfl (lv_at hl 3 rfl) ?_
      refine va_iald hx hb hK hP 2 1 rfl rfl (i := i) hin dX3_leastBehind_25 ?_
      refine lv_iload_n hx hb dX3_leastBehind_26 rfl (lv_at hl 1 rfl) ?_
      refine lv_icmp_ne (tgt := 34) hx hb dX3_leastBehind_27 (by decide) (fun c_27 => ?_) (fun c_27 => ?_)
      · refine lv_iconst (v := 0) hx hb dX3_leastBehind_34 (by decide) ?_
        refine lv_istore (lv' := [(4, .int 0), (0, .ref b0), (1, .int ch), (2, .ref a0), (3, .int i)]) hx hb dX3_leastBehind_35 hl (by decide) rfl (fun ls hl => ?_)
        refine lv_aload_n hx hb dX3_leastBehind_37 rfl (lv_at hl 1 rfl) ?_
        refine va_get (D := (dC, dI)) (ci := 4) (v := .ref b1) (C := RX3) (T := TX3) (N := 4) hx hb hts (by decide +kernel) hown hK hP 0 rfl rfl 0 (by decide) (hts (.fieldLink RX3 11 "CobolDebugger$Stops" "kinds" "[I") (by decide +kernel)) (fun _ h9 => h9) rfl dX3_leastBehind_38 ?_
        refine lv_iload_n hx hb dX3_leastBehind_41 rfl (lv_at hl 4 rfl) ?_
        refine va_iald hx hb hK hP 1 0 rfl rfl (i := i) hin dX3_leastBehind_42 ?_
        refine lv_iconst (v := 3) hx hb dX3_leastBehind_43 (by decide) ?_
        refine lv_icmp_ne (tgt := 70) hx hb dX3_leastBehind_44 (by decide) (fun c_44 => ?_) (fun c_44 => ?_)
        · refine lv_iconst (v := 0) hx hb dX3_leastBehind_70 (by decide) ?_
          refine lv_istore (lv' := [(5, .int 0), (4, .int 0), (0, .ref b0), (1, .int ch), (2, .ref a0), (3, .int i)]) hx hb dX3_leastBehind_71 hl (by decide) rfl (fun ls hl => ?_)
          refine lv_iload hx hb dX3_leastBehind_73 (lv_at hl 1 rfl) ?_
          refine lv_if_ne (tgt := 83) hx hb dX3_leastBehind_75 (by decide) (fun c_75 => ?_) (fun c_75 => ?_)
          · exact absurd c_75 (by decide)
          · refine lv_iload hx hb dX3_leastBehind_78 (lv_at hl 0 rfl) ?_
            refine lv_if_eq (tgt := 87) hx hb dX3_leastBehind_80 (by decide) (fun c_80 => ?_) (fun c_80 => ?_)
            · obtain ⟨i_3, e_i_3⟩ : ∃ y : Int32, y = i + 1 := ⟨_, rfl⟩
              refine lv_iinc (v := i_3) (lv' := [(3, .int i_3), (5, .int 0), (4, .int 0), (0, .ref b0), (1, .int ch), (2, .ref a0)]) hx hb dX3_leastBehind_87 hl (k := 5) rfl (by rw [e_i_3]; rfl) (by decide) rfl (fun ls hl => ?_)
              refine lv_goto (tgt := 2) hx hb dX3_leastBehind_90 (by decide) ?_
              exact ih i_3 _ _ _ ⟨lv_sub hl [3, 4, 5, 0] rfl, hP, hS, by rw [e_i_3, i_p1 (by omega) (by omega)]; omega⟩ (by rw [e_i_3, i_p1 (by omega) (by omega)]; omega)
            · exact absurd c_80 (by decide)
        · have hof := hst i.toNatClampNeg (by rw [cl_eq]; omega) c_44
          refine lv_aload_n hx hb dX3_leastBehind_47 rfl (lv_at hl 3 rfl) ?_
          refine lv_aload_n hx hb dX3_leastBehind_48 rfl (lv_at hl 1 rfl) ?_
          refine va_get (D := (dC, dI)) (ci := 4) (v := .ref b2) (C := RX3) (T := TX3) (N := 4) hx hb hts (by decide +kernel) hown hK hP 0 rfl rfl 1 (by decide) (hts (.fieldLink RX3 15 "CobolDebugger$Stops" "ofs" "[I") (by decide +kernel)) (fun _ h9 => h9) rfl dX3_leastBehind_49 ?_
          refine lv_iload_n hx hb dX3_leastBehind_52 rfl (lv_at hl 4 rfl) ?_
          refine va_iald hx hb hK hP 2 1 rfl rfl (i := i) hin dX3_leastBehind_53 ?_
          refine lv_aload_n hx hb dX3_leastBehind_54 rfl (lv_at hl 1 rfl) ?_
          refine va_get (D := (dC, dI)) (ci := 4) (v := .ref b3) (C := RX3) (T := TX3) (N := 4) hx hb hts (by decide +kernel) hown hK hP 0 rfl rfl 2 (by decide) (hts (.fieldLink RX3 18 "CobolDebugger$Stops" "conditions" "[I") (by decide +kernel)) (fun _ h9 => h9) rfl dX3_leastBehind_55 ?_
          refine lv_iload_n hx hb dX3_leastBehind_58 rfl (lv_at hl 4 rfl) ?_
          refine va_iald hx hb hK hP 3 2 rfl rfl (i := i) hin dX3_leastBehind_59 ?_
          have hPc := hP.sub (ws' := [(a0, .inr (1, [.ref a1, .ref a2, .ref a3, .int md])), (a1, .inl (ka1, 30, .inl us)), (a2, .inl (ka2, 30, .inl ss)), (a3, .inl (ka3, 270, .inl bs))]) [4, 5, 6, 7] rfl
          have hKc := hK.sub (tys' := [(ka1, .int), (ka2, .int), (ka3, .byte)]) [3, 4, 5] rfl
          refine va_calli (va_runS (As := [.ref a0, .int (of i.toNatClampNeg), .int (cd i.toNatClampNeg)]) (rest := []) ⟨hx, hb, hml, hown, hts⟩ (c_X3_reaches l dC dI a0 a1 a2 a3 ka1 ka2 ka3 us ss bs md (of i.toNatClampNeg) (cd i.toNatClampNeg) (it_in hit hof.1 hof.2) ((it_s hit hof.1 hof.2).1) ((it_s hit hof.1 hof.2).2) (hfb)) (va_cwS 3 hts gX3_leastBehind_X3_reaches rfl rfl rfl (by decide +kernel) ⟨Nat.le_of_ble_eq_true rfl, Nat.le_of_ble_eq_true rfl⟩) ⟨fun a U g mk q => by obtain ⟨q0, qP, qK, qN⟩ := q; exact ⟨q0, qP, va_K.moved (u := U) (U := U.calling g mk a) (Vm.Alike.refl U.vm) qK, nW_same qN⟩, fun U hU hW => ⟨rfl, by rw [hU]; exact hPc, va_K.moved hW.alike hKc, nW_warm hW hN⟩⟩ rfl rfl hl.1 rfl (lv_room (Nat.le_of_ble_eq_true rfl)) dX3_leastBehind_60 ⟨Nat.zero_le _, Nat.zero_le _⟩) hS (fun q _ h => h.elim) (fun q h => h.elim) (fun r_60 u t H1 locs ht hvm w_60 hB hz1 hk1 hS => ?_)
          try dsimp only at w_60
          have hP := rd_keep hP hk1
          clear hB hk1 hz1 ht hvm u t
          generalize H1 = H at hP hS ⊢
          refine lv_if_eq (tgt := 70) hx hb dX3_leastBehind_63 (by decide) (fun c_63 => ?_) (fun c_63 => ?_)
          · refine lv_iconst (v := 0) hx hb dX3_leastBehind_70 (by decide) ?_
            refine lv_istore (lv' := [(5, .int 0), (4, .int 0), (0, .ref b0), (1, .int ch), (2, .ref a0), (3, .int i)]) hx hb dX3_leastBehind_71 hl (by decide) rfl (fun ls hl => ?_)
            refine lv_iload hx hb dX3_leastBehind_73 (lv_at hl 1 rfl) ?_
            refine lv_if_ne (tgt := 83) hx hb dX3_leastBehind_75 (by decide) (fun c_75 => ?_) (fun c_75 => ?_)
            · exact absurd c_75 (by decide)
            · refine lv_iload hx hb dX3_leastBehind_78 (lv_at hl 0 rfl) ?_
              refine lv_if_eq (tgt := 87) hx hb dX3_leastBehind_80 (by decide) (fun c_80 => ?_) (fun c_80 => ?_)
              · obtain ⟨i_4, e_i_4⟩ : ∃ y : Int32, y = i + 1 := ⟨_, rfl⟩
                refine lv_iinc (v := i_4) (lv' := [(3, .int i_4), (5, .int 0), (4, .int 0), (0, .ref b0), (1, .int ch), (2, .ref a0)]) hx hb dX3_leastBehind_87 hl (k := 5) rfl (by rw [e_i_4]; rfl) (by decide) rfl (fun ls hl => ?_)
                refine lv_goto (tgt := 2) hx hb dX3_leastBehind_90 (by decide) ?_
                exact ih i_4 _ _ _ ⟨lv_sub hl [3, 4, 5, 0] rfl, hP, hS, by rw [e_i_4, i_p1 (by omega) (by omega)]; omega⟩ (by rw [e_i_4, i_p1 (by omega) (by omega)]; omega)
              · exact absurd c_80 (by decide)
          · refine lv_iconst (v := 1) hx hb dX3_leastBehind_66 (by decide) ?_
            refine lv_goto (tgt := 71) hx hb dX3_leastBehind_67 (by decide) ?_
            refine lv_istore (lv' := [(5, .int 1), (4, .int 0), (0, .ref b0), (1, .int ch), (2, .ref a0), (3, .int i)]) hx hb dX3_leastBehind_71 hl (by decide) rfl (fun ls hl => ?_)
            refine lv_iload hx hb dX3_leastBehind_73 (lv_at hl 1 rfl) ?_
            refine lv_if_ne (tgt := 83) hx hb dX3_leastBehind_75 (by decide) (fun c_75 => ?_) (fun c_75 => ?_)
            · exact absurd c_75 (by decide)
            · refine lv_iload hx hb dX3_leastBehind_78 (lv_at hl 0 rfl) ?_
              refine lv_if_eq (tgt := 87) hx hb dX3_leastBehind_80 (by decide) (fun c_80 => ?_) (fun c_80 => ?_)
              · exact absurd c_80 (by decide)
              · refine lv_iload_n hx hb dX3_leastBehind_83 rfl (lv_at hl 5 rfl) ?_
                refine lv_iconst (v := 1) hx hb dX3_leastBehind_84 (by decide) ?_
                refine lv_iadd hx hb dX3_leastBehind_85 ?_
                exact W.iret (v := i + 1) hx hb hr (fun t ht hW => ⟨⟨(i + 1), (), rfl, trivial, trivial⟩, hS.F ht⟩) hS.2.2 dX3_leastBehind_86
      · refine lv_iconst (v := 1) hx hb dX3_leastBehind_30 (by decide) ?_
        refine lv_goto (tgt := 35) hx hb dX3_leastBehind_31 (by decide) ?_
        refine lv_istore (lv' := [(4, .int 1), (0, .ref b0), (1, .int ch), (2, .ref a0), (3, .int i)]) hx hb dX3_leastBehind_35 hl (by decide) rfl (fun ls hl => ?_)
        refine lv_aload_n hx hb dX3_leastBehind_37 rfl (lv_at hl 1 rfl) ?_
        refine va_get (D := (dC, dI)) (ci := 4) (v := .ref b1) (C := RX3) (T := TX3) (N := 4) hx hb hts (by decide +kernel) hown hK hP 0 rfl rfl 0 (by decide) (hts (.fieldLink RX3 11 "CobolDebugger$Stops" "kinds" "[I") (by decide +kernel)) (fun _ h9 => h9) rfl dX3_leastBehind_38 ?_
        refine lv_iload_n hx hb dX3_leastBehind_41 rfl (lv_at hl 4 rfl) ?_
        refine va_iald hx hb hK hP 1 0 rfl rfl (i := i) hin dX3_leastBehind_42 ?_
        refine lv_iconst (v := 3) hx hb dX3_leastBehind_43 (by decide) ?_
        refine lv_icmp_ne (tgt := 70) hx hb dX3_leastBehind_44 (by decide) (fun c_44 => ?_) (fun c_44 => ?_)
        · refine lv_iconst (v := 0) hx hb dX3_leastBehind_70 (by decide) ?_
          refine lv_istore (lv' := [(5, .int 0), (4, .int 1), (0, .ref b0), (1, .int ch), (2, .ref a0), (3, .int i)]) hx hb dX3_leastBehind_71 hl (by decide) rfl (fun ls hl => ?_)
          refine lv_iload hx hb dX3_leastBehind_73 (lv_at hl 1 rfl) ?_
          refine lv_if_ne (tgt := 83) hx hb dX3_leastBehind_75 (by decide) (fun c_75 => ?_) (fun c_75 => ?_)
          · refine lv_iload_n hx hb dX3_leastBehind_83 rfl (lv_at hl 5 rfl) ?_
            refine lv_iconst (v := 1) hx hb dX3_leastBehind_84 (by decide) ?_
            refine lv_iadd hx hb dX3_leastBehind_85 ?_
            exact W.iret (v := i + 1) hx hb hr (fun t ht hW => ⟨⟨(i + 1), (), rfl, trivial, trivial⟩, hS.F ht⟩) hS.2.2 dX3_leastBehind_86
          · exact absurd c_75 (by decide)
        · have hof := hst i.toNatClampNeg (by rw [cl_eq]; omega) c_44
          refine lv_aload_n hx hb dX3_leastBehind_47 rfl (lv_at hl 3 rfl) ?_
          refine lv_aload_n hx hb dX3_leastBehind_48 rfl (lv_at hl 1 rfl) ?_
          refine va_get (D := (dC, dI)) (ci := 4) (v := .ref b2) (C := RX3) (T := TX3) (N := 4) hx hb hts (by decide +kernel) hown hK hP 0 rfl rfl 1 (by decide) (hts (.fieldLink RX3 15 "CobolDebugger$Stops" "ofs" "[I") (by decide +kernel)) (fun _ h9 => h9) rfl dX3_leastBehind_49 ?_
          refine lv_iload_n hx hb dX3_leastBehind_52 rfl (lv_at hl 4 rfl) ?_
          refine va_iald hx hb hK hP 2 1 rfl rfl (i := i) hin dX3_leastBehind_53 ?_
          refine lv_aload_n hx hb dX3_leastBehind_54 rfl (lv_at hl 1 rfl) ?_
          refine va_get (D := (dC, dI)) (ci := 4) (v := .ref b3) (C := RX3) (T := TX3) (N := 4) hx hb hts (by decide +kernel) hown hK hP 0 rfl rfl 2 (by decide) (hts (.fieldLink RX3 18 "CobolDebugger$Stops" "conditions" "[I") (by decide +kernel)) (fun _ h9 => h9) rfl dX3_leastBehind_55 ?_
          refine lv_iload_n hx hb dX3_leastBehind_58 rfl (lv_at hl 4 rfl) ?_
          refine va_iald hx hb hK hP 3 2 rfl rfl (i := i) hin dX3_leastBehind_59 ?_
          have hPc := hP.sub (ws' := [(a0, .inr (1, [.ref a1, .ref a2, .ref a3, .int md])), (a1, .inl (ka1, 30, .inl us)), (a2, .inl (ka2, 30, .inl ss)), (a3, .inl (ka3, 270, .inl bs))]) [4, 5, 6, 7] rfl
          have hKc := hK.sub (tys' := [(ka1, .int), (ka2, .int), (ka3, .byte)]) [3, 4, 5] rfl
          refine va_calli (va_runS (As := [.ref a0, .int (of i.toNatClampNeg), .int (cd i.toNatClampNeg)]) (rest := []) ⟨hx, hb, hml, hown, hts⟩ (c_X3_reaches l dC dI a0 a1 a2 a3 ka1 ka2 ka3 us ss bs md (of i.toNatClampNeg) (cd i.toNatClampNeg) (it_in hit hof.1 hof.2) ((it_s hit hof.1 hof.2).1) ((it_s hit hof.1 hof.2).2) (hfb)) (va_cwS 3 hts gX3_leastBehind_X3_reaches rfl rfl rfl (by decide +kernel) ⟨Nat.le_of_ble_eq_true rfl, Nat.le_of_ble_eq_true rfl⟩) ⟨fun a U g mk q => by obtain ⟨q0, qP, qK, qN⟩ := q; exact ⟨q0, qP, va_K.moved (u := U) (U := U.calling g mk a) (Vm.Alike.refl U.vm) qK, nW_same qN⟩, fun U hU hW => ⟨rfl, by rw [hU]; exact hPc, va_K.moved hW.alike hKc, nW_warm hW hN⟩⟩ rfl rfl hl.1 rfl (lv_room (Nat.le_of_ble_eq_true rfl)) dX3_leastBehind_60 ⟨Nat.zero_le _, Nat.zero_le _⟩) hS (fun q _ h => h.elim) (fun q h => h.elim) (fun r_60 u t H1 locs ht hvm w_60 hB hz1 hk1 hS => ?_)
          try dsimp only at w_60
          have hP := rd_keep hP hk1
          clear hB hk1 hz1 ht hvm u t
          generalize H1 = H at hP hS ⊢
          refine lv_if_eq (tgt := 70) hx hb dX3_leastBehind_63 (by decide) (fun c_63 => ?_) (fun c_63 => ?_)
          · refine lv_iconst (v := 0) hx hb dX3_leastBehind_70 (by decide) ?_
            refine lv_istore (lv' := [(5, .int 0), (4, .int 1), (0, .ref b0), (1, .int ch), (2, .ref a0), (3, .int i)]) hx hb dX3_leastBehind_71 hl (by decide) rfl (fun ls hl => ?_)
            refine lv_iload hx hb dX3_leastBehind_73 (lv_at hl 1 rfl) ?_
            refine lv_if_ne (tgt := 83) hx hb dX3_leastBehind_75 (by decide) (fun c_75 => ?_) (fun c_75 => ?_)
            · refine lv_iload_n hx hb dX3_leastBehind_83 rfl (lv_at hl 5 rfl) ?_
              refine lv_iconst (v := 1) hx hb dX3_leastBehind_84 (by decide) ?_
              refine lv_iadd hx hb dX3_leastBehind_85 ?_
              exact W.iret (v := i + 1) hx hb hr (fun t ht hW => ⟨⟨(i + 1), (), rfl, trivial, trivial⟩, hS.F ht⟩) hS.2.2 dX3_leastBehind_86
            · exact absurd c_75 (by decide)
          · refine lv_iconst (v := 1) hx hb dX3_leastBehind_66 (by decide) ?_
            refine lv_goto (tgt := 71) hx hb dX3_leastBehind_67 (by decide) ?_
            refine lv_istore (lv' := [(5, .int 1), (4, .int 1), (0, .ref b0), (1, .int ch), (2, .ref a0), (3, .int i)]) hx hb dX3_leastBehind_71 hl (by decide) rfl (fun ls hl => ?_)
            refine lv_iload hx hb dX3_leastBehind_73 (lv_at hl 1 rfl) ?_
            refine lv_if_ne (tgt := 83) hx hb dX3_leastBehind_75 (by decide) (fun c_75 => ?_) (fun c_75 => ?_)
            · refine lv_iload_n hx hb dX3_leastBehind_83 rfl (lv_at hl 5 rfl) ?_
              refine lv_iconst (v := 1) hx hb dX3_leastBehind_84 (by decide) ?_
              refine lv_iadd hx hb dX3_leastBehind_85 ?_
              exact W.iret (v := i + 1) hx hb hr (fun t ht hW => ⟨⟨(i + 1), (), rfl, trivial, trivial⟩, hS.F ht⟩) hS.2.2 dX3_leastBehind_86
            · exact absurd c_75 (by decide)
