set_option maxHeartbeats 4000000 in
set_option maxRecDepth 100000 in
theorem c_X0_replaceByte (l : Launch) (dC : Nat → ClassId) (dI : Nat → Nat → Nat) (sz : Nat) (a0 a1 a2 a3 : Nat) (ka3 : ClassId) (bs : Nat → Int32) (md : Int32) (im : Int32) (i : Int32) (b : Int32) (hix : vp_in (im * 9 + i) 270) : Met l yX0_replaceByte wsX0_replaceByte ({ frames := 0, cells := 0, slots := 0, locals := 0 }) (va_Pc [.ref a0, .int im, .int i, .int b] (fun U => U.heap.size = sz ∧ va_P (dC, dI) vwCl [(a0, .inr (1, [.ref a1, .ref a2, .ref a3, .int md])), (a3, .inl (ka3, 270, .inl bs))] U.heap ∧ va_K (dC, dI) vwCl [(ka3, .byte)] U ∧ va_D (fun _ => True) [(a0, .inr (1, [.ref a1, .ref a2, .ref a3, .int md])), (a3, .inl (ka3, 270, .inl bs))])) (va_Qi (fun (r : Int32) (u : Nat → Int32) => (r = 0 ∨ r = 1) ∧ (fitB bs → fitB u)) (fun (u : Nat → Int32) (t : State) => va_P (dC, dI) vwCl [(a0, .inr (1, [.ref a1, .ref a2, .ref a3, .int md])), (a3, .inl (ka3, 270, .inl u))] t.heap ∧ va_D (va_A [(a0, .inr (1, [.ref a1, .ref a2, .ref a3, .int md])), (a3, .inl (ka3, 270, .inl bs))] sz) [(a0, .inr (1, [.ref a1, .ref a2, .ref a3, .int md])), (a3, .inl (ka3, 270, .inl u))]) (va_A [(a0, .inr (1, [.ref a1, .ref a2, .ref a3, .int md])), (a3, .inl (ka3, 270, .inl bs))] sz)) 0 0 (va_A [(a0, .inr (1, [.ref a1, .ref a2, .ref a3, .int md])), (a3, .inl (ka3, 270, .inl bs))] sz) := by
  refine Met.ofW (cc := cX0_replaceByte) (maxL := 6) (ret := (some .boolean)) (by decide) rfl ?_
  intro p e s m args below meth c s₁ B hml hv
  obtain ⟨rfl, hsz, hP, hK, hD0⟩ := hv
  have hx := B.exec
  have hb := B.bytes
  have hr := B.returns
  have hts := atoms_spec (ws := wsX0_replaceByte) B.pre
  have hown : s.vm.findClass RX0 = some m.cls := findClass_of_methodNamed B.named
  have hlocks := B.notSynchronized
  subst hsz
  have hD := hD0.self (sz := s.heap.size)
  generalize hAe : va_A [(a0, .inr (1, [.ref a1, .ref a2, .ref a3, .int md])), (a3, .inl (ka3, 270, .inl bs))] s.heap.size = A at hD ⊢
  have hA : ∀ q : Nat, s.heap.size ≤ q → A q := fun q h => by rw [← hAe]; exact Or.inr h
  have hS : va_S A s.heap s.heap [] := va_S.rf
  have hl := lv_entry ([.ref a0, .int im, .int i, .int b]) (n := 6) (Nat.le_of_ble_eq_true rfl)
  rw [lg_entry_eq]
  generalize (lg_sl ([.ref a0, .int im, .int i, .int b]) ++ List.replicate (6 - (lg_sl ([.ref a0, .int im, .int i, .int b])).length) Slot.unset).toArray = ls at hl ⊢
  have hl : lv_has ls 6 [(0, .ref a0), (1, .int im), (2, .int i), (3, .int b)] := hl
  refine lv_iload_n hx hb dX0_replaceByte_0 rfl (lv_at hl 1 rfl) ?_
  refine lv_bipush (v := 9) hx hb dX0_replaceByte_1 (by decide) ?_
  refine lv_imul hx hb dX0_replaceByte_3 ?_
  refine lv_iload_n hx hb dX0_replaceByte_4 rfl (lv_at hl 2 rfl) ?_
  refine lv_iadd hx hb dX0_replaceByte_5 ?_
  refine lv_istore (lv' := [(4, .int ((im * 9) + i)), (0, .ref a0), (1, .int im), (2, .int i), (3, .int b)]) hx hb dX0_replaceByte_6 hl (by decide) rfl (fun ls hl => ?_)
  refine lv_aload_n hx hb dX0_replaceByte_8 rfl (lv_at hl 1 rfl) ?_
  refine va_get (D := (dC, dI)) (ci := 1) (v := .ref a3) (C := RX0) (T := TX0) (N := 4) hx hb hts (by decide +kernel) hown hK hP 0 rfl rfl 2 (by decide) (hts (.fieldLink RX0 18 "CobolDebugger$Items" "bytes" "[B") (by decide +kernel)) (fun _ h9 => h9) rfl dX0_replaceByte_9 ?_
  refine lv_iload hx hb dX0_replaceByte_12 (lv_at hl 0 rfl) ?_
  refine va_bald hx hb hK hP 1 0 rfl rfl (i := (im * 9) + i) hix dX0_replaceByte_14 ?_
  refine lv_iload_n hx hb dX0_replaceByte_15 rfl (lv_at hl 4 rfl) ?_
  refine lv_icmp_eq (tgt := 23) hx hb dX0_replaceByte_16 (by decide) (fun c_16 => ?_) (fun c_16 => ?_)
  · refine lv_iconst (v := 0) hx hb dX0_replaceByte_23 (by decide) ?_
    refine lv_istore (lv' := [(5, .int 0), (4, .int ((im * 9) + i)), (0, .ref a0), (1, .int im), (2, .int i), (3, .int b)]) hx hb dX0_replaceByte_24 hl (by decide) rfl (fun ls hl => ?_)
    refine lv_aload_n hx hb dX0_replaceByte_26 rfl (lv_at hl 2 rfl) ?_
    refine va_get (D := (dC, dI)) (ci := 1) (v := .ref a3) (C := RX0) (T := TX0) (N := 4) hx hb hts (by decide +kernel) hown hK hP 0 rfl rfl 2 (by decide) (hts (.fieldLink RX0 18 "CobolDebugger$Items" "bytes" "[B") (by decide +kernel)) (fun _ h9 => h9) rfl dX0_replaceByte_27 ?_
    refine lv_iload hx hb dX0_replaceByte_30 (lv_at hl 1 rfl) ?_
    refine lv_iload_n hx hb dX0_replaceByte_32 rfl (lv_at hl 5 rfl) ?_
    refine va_bast hx hb hK hP hD hS 1 0 rfl rfl (i := (im * 9) + i) hix dX0_replaceByte_33 (fun H locs hP hD hS => ?_)
    have hP : va_P (dC, dI) vwCl [(a0, .inr (1, [.ref a1, .ref a2, .ref a3, .int md])), (a3, .inl (ka3, 270, .inl (upd bs ((im * 9) + i).toNatClampNeg (vp_nar .byte b))))] H := hP
    have hD : va_D A [(a0, .inr (1, [.ref a1, .ref a2, .ref a3, .int md])), (a3, .inl (ka3, 270, .inl (upd bs ((im * 9) + i).toNatClampNeg (vp_nar .byte b))))] := hD
    obtain ⟨g_1, e_g_1⟩ : ∃ y, y = upd bs ((im * 9) + i).toNatClampNeg (vp_nar .byte b) := ⟨_, rfl⟩
    rw [← e_g_1] at hP hD
    refine lv_iload hx hb dX0_replaceByte_34 (lv_at hl 0 rfl) ?_
    exact W.zret (v := 0) hx hb hr (by decide) (fun t ht hW => ⟨⟨0, g_1, rfl, ⟨Or.inl rfl, fun h => by rw [e_g_1]; exact fitB_upd h _ _⟩, by rw [ht]; exact hP, hD⟩, hS.F ht⟩) hS.2.2 dX0_replaceByte_36
  · refine lv_iconst (v := 1) hx hb dX0_replaceByte_19 (by decide) ?_
    refine lv_goto (tgt := 24) hx hb dX0_replaceByte_20 (by decide) ?_
    refine lv_istore (lv' := [(5, .int 1), (4, .int ((im * 9) + i)), (0, .ref a0), (1, .int im), (2, .int i), (3, .int b)]) hx hb dX0_replaceByte_24 hl (by decide) rfl (fun ls hl => ?_)
    refine lv_aload_n hx hb dX0_replaceByte_26 rfl (lv_at hl 2 rfl) ?_
    refine va_get (D := (dC, dI)) (ci := 1) (v := .ref a3) (C := RX0) (T := TX0) (N := 4) hx hb hts (by decide +kernel) hown hK hP 0 rfl rfl 2 (by decide) (hts (.fieldLink RX0 18 "CobolDebugger$Items" "bytes" "[B") (by decide +kernel)) (fun _ h9 => h9) rfl dX0_replaceByte_27 ?_
    refine lv_iload hx hb dX0_replaceByte_30 (lv_at hl 1 rfl) ?_
    refine lv_iload_n hx hb dX0_replaceByte_32 rfl (lv_at hl 5 rfl) ?_
    refine va_bast hx hb hK hP hD hS 1 0 rfl rfl (i := (im * 9) + i) hix dX0_replaceByte_33 (fun H locs hP hD hS => ?_)
    have hP : va_P (dC, dI) vwCl [(a0, .inr (1, [.ref a1, .ref a2, .ref a3, .int md])), (a3, .inl (ka3, 270, .inl (upd bs ((im * 9) + i).toNatClampNeg (vp_nar .byte b))))] H := hP
    have hD : va_D A [(a0, .inr (1, [.ref a1, .ref a2, .ref a3, .int md])), (a3, .inl (ka3, 270, .inl (upd bs ((im * 9) + i).toNatClampNeg (vp_nar .byte b))))] := hD
    obtain ⟨g_2, e_g_2⟩ : ∃ y, y = upd bs ((im * 9) + i).toNatClampNeg (vp_nar .byte b) := ⟨_, rfl⟩
    rw [← e_g_2] at hP hD
    refine lv_iload hx hb dX0_replaceByte_34 (lv_at hl 0 rfl) ?_
    exact W.zret (v := 1) hx hb hr (by decide) (fun t ht hW => ⟨⟨1, g_2, rfl, ⟨Or.inr rfl, fun h => by rw [e_g_2]; exact fitB_upd h _ _⟩, by rw [ht]; exact hP, hD⟩, hS.F ht⟩) hS.2.2 dX0_replaceByte_36

set_option maxHeartbeats 4000000 in
set_option maxRecDepth 100000 in
theorem c_X0_writeBinary (l : Launch) (dC : Nat → ClassId) (dI : Nat → Nat → Nat) (sz : Nat) (a0 a1 a2 a3 : Nat) (ka2 ka3 : ClassId) (ss bs : Nat → Int32) (md : Int32) (im : Int32) (v : Int64) (him : vp_in im 30) (hs1 : 1 ≤ (ss im.toNatClampNeg).toInt) (hs9 : (ss im.toNatClampNeg).toInt ≤ 9) : Met l yX0_writeBinary wsX0_writeBinary ({ frames := 1, cells := 0, slots := 0, locals := 25 }) (va_Pc [.ref a0, .int im, .long v] (fun U => U.heap.size = sz ∧ va_P (dC, dI) vwCl [(a0, .inr (1, [.ref a1, .ref a2, .ref a3, .int md])), (a2, .inl (ka2, 30, .inl ss)), (a3, .inl (ka3, 270, .inl bs))] U.heap ∧ va_K (dC, dI) vwCl [(ka2, .int), (ka3, .byte)] U ∧ va_D (fun _ => True) [(a0, .inr (1, [.ref a1, .ref a2, .ref a3, .int md])), (a2, .inl (ka2, 30, .inl ss)), (a3, .inl (ka3, 270, .inl bs))])) (va_Qi (fun (r : Int32) (u : Nat → Int32) => (r = 0 ∨ r = 1) ∧ (fitB bs → fitB u)) (fun (u : Nat → Int32) (t : State) => va_P (dC, dI) vwCl [(a0, .inr (1, [.ref a1, .ref a2, .ref a3, .int md])), (a2, .inl (ka2, 30, .inl ss)), (a3, .inl (ka3, 270, .inl u))] t.heap ∧ va_D (va_A [(a0, .inr (1, [.ref a1, .ref a2, .ref a3, .int md])), (a2, .inl (ka2, 30, .inl ss)), (a3, .inl (ka3, 270, .inl bs))] sz) [(a0, .inr (1, [.ref a1, .ref a2, .ref a3, .int md])), (a2, .inl (ka2, 30, .inl ss)), (a3, .inl (ka3, 270, .inl u))]) (va_A [(a0, .inr (1, [.ref a1, .ref a2, .ref a3, .int md])), (a2, .inl (ka2, 30, .inl ss)), (a3, .inl (ka3, 270, .inl bs))] sz)) 0 0 (va_A [(a0, .inr (1, [.ref a1, .ref a2, .ref a3, .int md])), (a2, .inl (ka2, 30, .inl ss)), (a3, .inl (ka3, 270, .inl bs))] sz) := by
  refine Met.ofW (cc := cX0_writeBinary) (maxL := 8) (ret := (some .boolean)) (by decide) rfl ?_
  intro p e s m args below meth c s₁ B hml hv
  obtain ⟨rfl, hsz, hP, hK, hD0⟩ := hv
  have hx := B.exec
  have hb := B.bytes
  have hr := B.returns
  have hts := atoms_spec (ws := wsX0_writeBinary) B.pre
  have hown : s.vm.findClass RX0 = some m.cls := findClass_of_methodNamed B.named
  have hlocks := B.notSynchronized
  subst hsz
  have hD := hD0.self (sz := s.heap.size)
  generalize hAe : va_A [(a0, .inr (1, [.ref a1, .ref a2, .ref a3, .int md])), (a2, .inl (ka2, 30, .inl ss)), (a3, .inl (ka3, 270, .inl bs))] s.heap.size = A at hD ⊢
  have hA : ∀ q : Nat, s.heap.size ≤ q → A q := fun q h => by rw [← hAe]; exact Or.inr h
  have hS : va_S A s.heap s.heap [] := va_S.rf
  have hl := lv_entry ([.ref a0, .int im, .long v]) (n := 8) (Nat.le_of_ble_eq_true rfl)
  rw [lg_entry_eq]
  generalize (lg_sl ([.ref a0, .int im, .long v]) ++ List.replicate (8 - (lg_sl ([.ref a0, .int im, .long v])).length) Slot.unset).toArray = ls at hl ⊢
  have hl : lv_has ls 8 [(0, .ref a0), (1, .int im), (2, .long v)] := hl
  refine lv_iconst (v := 0) hx hb dX0_writeBinary_0 (by decide) ?_
  refine lv_istore (lv' := [(4, .int 0), (0, .ref a0), (1, .int im), (2, .long v)]) hx hb dX0_writeBinary_1 hl (by decide) rfl (fun ls hl => ?_)
  refine lv_lload_n hx hb dX0_writeBinary_3 rfl (lv_at hl 3 rfl) ?_
  refine lv_lstore (lv' := [(5, .long v), (4, .int 0), (0, .ref a0), (1, .int im), (2, .long v)]) hx hb dX0_writeBinary_4 hl (by decide) rfl (fun ls hl => ?_)
  refine lv_aload_n hx hb dX0_writeBinary_6 rfl (lv_at hl 2 rfl) ?_
  refine va_get (D := (dC, dI)) (ci := 1) (v := .ref a2) (C := RX0) (T := TX0) (N := 4) hx hb hts (by decide +kernel) hown hK hP 0 rfl rfl 1 (by decide) (hts (.fieldLink RX0 15 "CobolDebugger$Items" "sizes" "[I") (by decide +kernel)) (fun _ h9 => h9) rfl dX0_writeBinary_7 ?_
  refine lv_iload_n hx hb dX0_writeBinary_10 rfl (lv_at hl 3 rfl) ?_
  refine va_iald hx hb hK hP 1 0 rfl rfl (i := im) him dX0_writeBinary_11 ?_
  refine lv_iconst (v := 1) hx hb dX0_writeBinary_12 (by decide) ?_
  refine lv_isub hx hb dX0_writeBinary_13 ?_
  refine lv_istore (lv' := [(7, .int ((ss im.toNatClampNeg) - 1)), (5, .long v), (4, .int 0), (0, .ref a0), (1, .int im), (2, .long v)]) hx hb dX0_writeBinary_14 hl (by decide) rfl (fun ls hl => ?_)
  refine wl4 (μ := fun (ch : Int32) (rs : Int64) (i : Int32) (bx : Nat → Int32) => (i.toInt + 1).toNat) (I := fun (ch : Int32) (rs : Int64) (i : Int32) (bx : Nat → Int32) (ls : Array Slot) (H : Heap) (locs : List Loc) => lv_has ls 8 [(0, .ref a0), (1, .int im), (4, .int ch), (5, .long rs), (7, .int i)] ∧ va_P (dC, dI) vwCl [(a0, .inr (1, [.ref a1, .ref a2, .ref a3, .int md])), (a2, .inl (ka2, 30, .inl ss)), (a3, .inl (ka3, 270, .inl bx))] H ∧ va_D A [(a0, .inr (1, [.ref a1, .ref a2, .ref a3, .int md])), (a2, .inl (ka2, 30, .inl ss)), (a3, .inl (ka3, 270, .inl bx))] ∧ va_S A s.heap H locs ∧ (ch = 0 ∨ ch = 1) ∧ (fitB bs → fitB bx) ∧ (i.toInt < 9)) (fun ch rs i bx ls H locs hI ih => ?_) 0 v ((ss im.toNatClampNeg) - 1) bs ls _ _ ⟨lv_sub hl [3, 4, 2, 1, 0] rfl, hP, hD, hS, Or.inl rfl, id, by rw [i_s1 (by omega)]; omega⟩
  obtain ⟨hl, hP, hD, hS, hch, hfb, hi9⟩ := hI
  refine lv_iload hx hb dX0_writeBinary_16 (lv_at hl 4 rfl) ?_
  refine lv_if_lt (tgt := 50) hx hb dX0_writeBinary_18 (by decide) (fun c_18 => ?_) (fun c_18 => ?_)
  · refine lv_iload hx hb dX0_writeBinary_50 (lv_at hl 2 rfl) ?_
    exact W.zret (v := ch) hx hb hr (ch_nar hch) (fun t ht hW => ⟨⟨ch, bx, rfl, ⟨hch, hfb⟩, by rw [ht]; exact hP, hD⟩, hS.F ht⟩) hS.2.2 dX0_writeBinary_52
  · have h0i := i_n0 c_18
    refine lv_iload hx hb dX0_writeBinary_21 (lv_at hl 2 rfl) ?_
    refine lv_aload_n hx hb dX0_writeBinary_23 rfl (lv_at hl 0 rfl) ?_
    refine lv_iload_n hx hb dX0_writeBinary_24 rfl (lv_at hl 1 rfl) ?_
    refine lv_iload hx hb dX0_writeBinary_25 (lv_at hl 4 rfl) ?_
    refine lv_lload hx hb dX0_writeBinary_27 (lv_at hl 3 rfl) ?_
    refine lv_l2i hx hb dX0_writeBinary_29 rfl ?_
    refine lv_i2b hx hb dX0_writeBinary_30 rfl ?_
    have hPc := hP.sub (ws' := [(a0, .inr (1, [.ref a1, .ref a2, .ref a3, .int md])), (a3, .inl (ka3, 270, .inl bx))]) [0, 2] rfl
    have hKc := hK.sub (tys' := [(ka3, .byte)]) [1] rfl
    have hDc := hD.sub (ws' := [(a0, .inr (1, [.ref a1, .ref a2, .ref a3, .int md])), (a3, .inl (ka3, 270, .inl bx))]) [0, 2] (by decide) rfl
    have hFc := va_free (wc := [(a0, .inr (1, [.ref a1, .ref a2, .ref a3, .int md])), (a3, .inl (ka3, 270, .inl bx))]) hD hS hA [0, 2] rfl
    refine va_calli (va_runV (As := [.int im, .int i, .int rs.toInt32.toInt8.toInt32]) (rest := [.int ch]) ⟨hx, hb, hml, hown, hts⟩ (c_X0_replaceByte l dC dI H.size a0 a1 a2 a3 ka3 bx md im i rs.toInt32.toInt8.toInt32 (ix_9 him h0i hi9)) (cwV 3 hts gX0_writeBinary_X0_replaceByte rfl rfl rfl (by decide +kernel) ⟨Nat.le_of_ble_eq_true rfl, Nat.le_of_ble_eq_true rfl⟩) ⟨fun a U g mk q => by obtain ⟨q0, q1, qP, qK, qD⟩ := q; exact ⟨q0, q1, qP, va_K.moved (u := U) (U := U.calling g mk a) (Vm.Alike.refl U.vm) qK, qD⟩, va_recv hKc hPc (ci := 1) (q0 := 0) rfl rfl, fun U hU hW => ⟨rfl, by rw [hU], by rw [hU]; exact hPc, va_K.moved hW.alike hKc, hDc.weaken (fun _ _ _ _ => trivial)⟩⟩ rfl rfl hl.1 rfl (lv_room (Nat.le_of_ble_eq_true rfl)) dX0_writeBinary_31 ⟨Nat.zero_le _, Nat.zero_le _⟩) hS (fun q _ h => hFc q h) (fun q h => hFc q h) (fun r_31 u t H1 locs ht hvm w_31 hB hz1 hk1 hS => ?_)
    try dsimp only at w_31
    obtain ⟨bs_31, rfl⟩ : ∃ z, z = u := ⟨_, rfl⟩
    obtain ⟨hP1, hD1⟩ := hB
    rw [ht] at hP1
    obtain ⟨hP, hD⟩ := va_join (wr := [(a2, .inl (ka2, 30, .inl ss))]) (w1 := [(a0, .inr (1, [.ref a1, .ref a2, .ref a3, .int md])), (a3, .inl (ka3, 270, .inl bs_31))]) hP hD [0, 2] [1] rfl rfl (by decide) (by decide) hk1 hFc hP1 hD1
    generalize H1 = H at hP hS ⊢
    have hP := hP.sub (ws' := [(a0, .inr (1, [.ref a1, .ref a2, .ref a3, .int md])), (a2, .inl (ka2, 30, .inl ss)), (a3, .inl (ka3, 270, .inl bs_31))]) [1, 0, 2] rfl
    have hD := hD.sub (ws' := [(a0, .inr (1, [.ref a1, .ref a2, .ref a3, .int md])), (a2, .inl (ka2, 30, .inl ss)), (a3, .inl (ka3, 270, .inl bs_31))]) [1, 0, 2] (by decide) rfl
    refine lv_ior hx hb dX0_writeBinary_34 ?_
    refine lv_istore (lv' := [(4, .int (ch ||| r_31)), (0, .ref a0), (1, .int im), (5, .long rs), (7, .int i)]) hx hb dX0_writeBinary_35 hl (by decide) rfl (fun ls hl => ?_)
    refine lv_lload hx hb dX0_writeBinary_37 (lv_at hl 3 rfl) ?_
    refine lv_bipush (v := 8) hx hb dX0_writeBinary_39 (by decide) ?_
    refine lv_lshr hx hb dX0_writeBinary_41 rfl ?_
    refine lv_lstore (lv' := [(5, .long (rs >>> ((8 : Int32).toInt64 &&& 63))), (4, .int (ch ||| r_31)), (0, .ref a0), (1, .int im), (7, .int i)]) hx hb dX0_writeBinary_42 hl (by decide) rfl (fun ls hl => ?_)
    obtain ⟨i_1, e_i_1⟩ : ∃ y : Int32, y = i + (-1) := ⟨_, rfl⟩
    refine lv_iinc (v := i_1) (lv' := [(7, .int i_1), (5, .long (rs >>> ((8 : Int32).toInt64 &&& 63))), (4, .int (ch ||| r_31)), (0, .ref a0), (1, .int im)]) hx hb dX0_writeBinary_44 hl (k := 4) rfl (by rw [e_i_1]; rfl) (by decide) rfl (fun ls hl => ?_)
    refine lv_goto (tgt := 16) hx hb dX0_writeBinary_47 (by decide) ?_
    exact ih (ch ||| r_31) (rs >>> ((8 : Int32).toInt64 &&& 63)) i_1 bs_31 _ _ _ ⟨lv_sub hl [3, 4, 2, 1, 0] rfl, hP, hD, hS, ch_or hch w_31.1, fun h => w_31.2 (hfb h), by rw [e_i_1, i_m1 h0i]; omega⟩ (by rw [e_i_1, i_m1 h0i]; omega)

set_option maxHeartbeats 4000000 in
set_option maxRecDepth 100000 in
theorem c_X0_writeDecimal (l : Launch) (dC : Nat → ClassId) (dI : Nat → Nat → Nat) (tT : Nat) (sz : Nat) (a0 a1 a2 a3 : Nat) (ka2 ka3 : ClassId) (ss bs : Nat → Int32) (md : Int32) (im : Int32) (v : Int64) (him : vp_in im 30) (hs1 : 1 ≤ (ss im.toNatClampNeg).toInt) (hs9 : (ss im.toNatClampNeg).toInt ≤ 9) : Met l yX0_writeDecimal wsX0_writeDecimal ({ frames := 1, cells := 0, slots := 0, locals := 25 }) (va_Pc [.ref a0, .int im, .long v] (fun U => U.heap.size = sz ∧ va_P (dC, dI) vwCl [(a0, .inr (1, [.ref a1, .ref a2, .ref a3, .int md])), (a2, .inl (ka2, 30, .inl ss)), (a3, .inl (ka3, 270, .inl bs))] U.heap ∧ va_K (dC, dI) vwCl [(ka2, .int), (ka3, .byte)] U ∧ va_D (fun _ => True) [(a0, .inr (1, [.ref a1, .ref a2, .ref a3, .int md])), (a2, .inl (ka2, 30, .inl ss)), (a3, .inl (ka3, 270, .inl bs))] ∧ tnW tT (va_A [(a0, .inr (1, [.ref a1, .ref a2, .ref a3, .int md])), (a2, .inl (ka2, 30, .inl ss)), (a3, .inl (ka3, 270, .inl bs))] sz) U)) (va_Qi (fun (r : Int32) (u : Nat → Int32) => (r = 0 ∨ r = 1) ∧ (fitB bs → fitB u)) (fun (u : Nat → Int32) (t : State) => va_P (dC, dI) vwCl [(a0, .inr (1, [.ref a1, .ref a2, .ref a3, .int md])), (a2, .inl (ka2, 30, .inl ss)), (a3, .inl (ka3, 270, .inl u))] t.heap ∧ va_D (va_A [(a0, .inr (1, [.ref a1, .ref a2, .ref a3, .int md])), (a2, .inl (ka2, 30, .inl ss)), (a3, .inl (ka3, 270, .inl bs))] sz) [(a0, .inr (1, [.ref a1, .ref a2, .ref a3, .int md])), (a2, .inl (ka2, 30, .inl ss)), (a3, .inl (ka3, 270, .inl u))]) (va_A [(a0, .inr (1, [.ref a1, .ref a2, .ref a3, .int md])), (a2, .inl (ka2, 30, .inl ss)), (a3, .inl (ka3, 270, .inl bs))] sz)) 0 0 (va_A [(a0, .inr (1, [.ref a1, .ref a2, .ref a3, .int md])), (a2, .inl (ka2, 30, .inl ss)), (a3, .inl (ka3, 270, .inl bs))] sz) := by
  refine Met.ofW (cc := cX0_writeDecimal) (maxL := 12) (ret := (some .boolean)) (by decide) rfl ?_
  intro p e s m args below meth c s₁ B hml hv
  obtain ⟨rfl, hsz, hP, hK, hD0, hT⟩ := hv
  have hx := B.exec
  have hb := B.bytes
  have hr := B.returns
  have hts := atoms_spec (ws := wsX0_writeDecimal) B.pre
  have hown : s.vm.findClass RX0 = some m.cls := findClass_of_methodNamed B.named
  have hlocks := B.notSynchronized
  subst hsz
  have hD := hD0.self (sz := s.heap.size)
  generalize hAe : va_A [(a0, .inr (1, [.ref a1, .ref a2, .ref a3, .int md])), (a2, .inl (ka2, 30, .inl ss)), (a3, .inl (ka3, 270, .inl bs))] s.heap.size = A at hD hT ⊢
  have hA : ∀ q : Nat, s.heap.size ≤ q → A q := fun q h => by rw [← hAe]; exact Or.inr h
  have hS : va_S A s.heap s.heap [] := va_S.rf
  obtain ⟨hZ9, hT9⟩ := id hT
  have hl := lv_entry ([.ref a0, .int im, .long v]) (n := 12) (Nat.le_of_ble_eq_true rfl)
  rw [lg_entry_eq]
  generalize (lg_sl ([.ref a0, .int im, .long v]) ++ List.replicate (12 - (lg_sl ([.ref a0, .int im, .long v])).length) Slot.unset).toArray = ls at hl ⊢
  have hl : lv_has ls 12 [(0, .ref a0), (1, .int im), (2, .long v)] := hl
  refine lv_aload_n hx hb dX0_writeDecimal_0 rfl (lv_at hl 0 rfl) ?_
  refine va_get (D := (dC, dI)) (ci := 1) (v := .ref a2) (C := RX0) (T := TX0) (N := 4) hx hb hts (by decide +kernel) hown hK hP 0 rfl rfl 1 (by decide) (hts (.fieldLink RX0 15 "CobolDebugger$Items" "sizes" "[I") (by decide +kernel)) (fun _ h9 => h9) rfl dX0_writeDecimal_1 ?_
  refine lv_iload_n hx hb dX0_writeDecimal_4 rfl (lv_at hl 1 rfl) ?_
  refine va_iald hx hb hK hP 1 0 rfl rfl (i := im) him dX0_writeDecimal_5 ?_
  refine lv_iconst (v := 1) hx hb dX0_writeDecimal_6 (by decide) ?_
  refine lv_isub hx hb dX0_writeDecimal_7 ?_
  refine lv_topi (fun en e_en => ?_)
  refine lv_istore (lv' := [(4, .int en), (0, .ref a0), (1, .int im), (2, .long v)]) hx hb dX0_writeDecimal_8 hl (by decide) rfl (fun ls hl => ?_)
  refine lv_lload_n hx hb dX0_writeDecimal_10 rfl (lv_at hl 3 rfl) ?_
  refine va_gets hx hb hZ9 hS hown (hts (.fieldLink RX0 54 "CobolDebugger$Items" "TENS" "[J") (by decide +kernel)) (fun _ h9 => h9) dX0_writeDecimal_11 ?_
  refine lv_aload_n hx hb dX0_writeDecimal_14 rfl (lv_at hl 1 rfl) ?_
  refine va_get (D := (dC, dI)) (ci := 1) (v := .ref a2) (C := RX0) (T := TX0) (N := 4) hx hb hts (by decide +kernel) hown hK hP 0 rfl rfl 1 (by decide) (hts (.fieldLink RX0 15 "CobolDebugger$Items" "sizes" "[I") (by decide +kernel)) (fun _ h9 => h9) rfl dX0_writeDecimal_15 ?_
  refine lv_iload_n hx hb dX0_writeDecimal_18 rfl (lv_at hl 2 rfl) ?_
  refine va_iald hx hb hK hP 1 0 rfl rfl (i := im) him dX0_writeDecimal_19 ?_
  refine va_tl hx hb hT9 hS (ix_r (by omega) (by omega)) (v := .long (tn_v (ss im.toNatClampNeg).toNatClampNeg)) rfl dX0_writeDecimal_20 ?_
  refine lv_lrem hx hb dX0_writeDecimal_21 (tn_ne _) ?_
  refine lv_topl (fun lw e_lw => ?_)
  refine lv_lstore (lv' := [(5, .long lw), (4, .int en), (0, .ref a0), (1, .int im), (2, .long v)]) hx hb dX0_writeDecimal_22 hl (by decide) rfl (fun ls hl => ?_)
  refine lv_lload hx hb dX0_writeDecimal_24 (lv_at hl 0 rfl) ?_
  refine lv_lconst (v := 0) hx hb dX0_writeDecimal_26 (by decide) ?_
  refine W.lcmp hx hb dX0_writeDecimal_27 ?_
  refine lv_if_ge (tgt := 36) hx hb dX0_writeDecimal_28 (by decide) (fun c_28 => ?_) (fun c_28 => ?_)
  · refine lv_iconst (v := 0) hx hb dX0_writeDecimal_36 (by decide) ?_
    refine lv_istore (lv' := [(7, .int 0), (5, .long lw), (4, .int en), (0, .ref a0), (1, .int im), (2, .long v)]) hx hb dX0_writeDecimal_37 hl (by decide) rfl (fun ls hl => ?_)
    refine lv_lload hx hb dX0_writeDecimal_39 (lv_at hl 1 rfl) ?_
    refine va_mabs_long hx hb (by rw [hml]; exact hl.1.symm) hown (hts (.methodLink RX0 68 Lib.MathLoose.abs_long.x) (by decide +kernel)) (hts (.static Lib.MathLoose.abs_long.x) (by decide +kernel)) (hts (.initialized "java/lang/Math") (by decide +kernel)) (hts (.code Lib.MathLoose.abs_long.x Lib.MathLoose.abs_long.code 2 (some .long)) (by decide +kernel)) (Nat.le_of_ble_eq_true rfl) (Nat.le_of_ble_eq_true rfl) (Nat.le_of_ble_eq_true rfl) (Nat.le_of_ble_eq_true rfl) dX0_writeDecimal_41 ?_
    refine lv_topl (fun ab e_ab => ?_)
    refine lv_lstore (lv' := [(8, .long ab), (7, .int 0), (5, .long lw), (4, .int en), (0, .ref a0), (1, .int im), (2, .long v)]) hx hb dX0_writeDecimal_44 hl (by decide) rfl (fun ls hl => ?_)
    have hen : en.toInt = (ss im.toNatClampNeg).toInt - 1 := by rw [e_en, i_s1 (by omega)]
    refine lv_aload_n hx hb dX0_writeDecimal_46 rfl (lv_at hl 4 rfl) ?_
    refine lv_iload_n hx hb dX0_writeDecimal_47 rfl (lv_at hl 5 rfl) ?_
    refine lv_iload hx hb dX0_writeDecimal_48 (lv_at hl 3 rfl) ?_
    refine lv_ldc2 (v := 48) hx hb hown (hts (.constantLong RX0 47 48) (by decide +kernel)) dX0_writeDecimal_50 ?_
    refine lv_lload hx hb dX0_writeDecimal_53 (lv_at hl 0 rfl) ?_
    refine lv_ldc2 (v := 10) hx hb hown (hts (.constantLong RX0 45 10) (by decide +kernel)) dX0_writeDecimal_55 ?_
    refine lv_lrem hx hb dX0_writeDecimal_58 (by decide) ?_
    refine lv_ladd hx hb dX0_writeDecimal_59 ?_
    refine lv_iload hx hb dX0_writeDecimal_60 (lv_at hl 1 rfl) ?_
    refine lv_i2l hx hb dX0_writeDecimal_62 rfl ?_
    refine lv_ladd hx hb dX0_writeDecimal_63 ?_
    refine lv_l2i hx hb dX0_writeDecimal_64 rfl ?_
    refine lv_i2b hx hb dX0_writeDecimal_65 rfl ?_
    have hPc := hP.sub (ws' := [(a0, .inr (1, [.ref a1, .ref a2, .ref a3, .int md])), (a3, .inl (ka3, 270, .inl bs))]) [0, 2] rfl
    have hKc := hK.sub (tys' := [(ka3, .byte)]) [1] rfl
    have hDc := hD.sub (ws' := [(a0, .inr (1, [.ref a1, .ref a2, .ref a3, .int md])), (a3, .inl (ka3, 270, .inl bs))]) [0, 2] (by decide) rfl
    have hFc := va_free (wc := [(a0, .inr (1, [.ref a1, .ref a2, .ref a3, .int md])), (a3, .inl (ka3, 270, .inl bs))]) hD hS hA [0, 2] rfl
    refine va_calli (va_runV (As := [.int im, .int en, .int ((((48 + (ab - ab / 10 * 10)) + ((0 : Int32).toInt64)).toInt32).toInt8.toInt32)]) (rest := []) ⟨hx, hb, hml, hown, hts⟩ (c_X0_replaceByte l dC dI s.heap.size a0 a1 a2 a3 ka3 bs md im en ((((48 + (ab - ab / 10 * 10)) + ((0 : Int32).toInt64)).toInt32).toInt8.toInt32) (ix_9 him (by omega) (by omega))) (cwV 3 hts gX0_writeDecimal_X0_replaceByte rfl rfl rfl (by decide +kernel) ⟨Nat.le_of_ble_eq_true rfl, Nat.le_of_ble_eq_true rfl⟩) ⟨fun a U g mk q => by obtain ⟨q0, q1, qP, qK, qD⟩ := q; exact ⟨q0, q1, qP, va_K.moved (u := U) (U := U.calling g mk a) (Vm.Alike.refl U.vm) qK, qD⟩, va_recv hKc hPc (ci := 1) (q0 := 0) rfl rfl, fun U hU hW => ⟨rfl, by rw [hU], by rw [hU]; exact hPc, va_K.moved hW.alike hKc, hDc.weaken (fun _ _ _ _ => trivial)⟩⟩ rfl rfl hl.1 rfl (lv_room (Nat.le_of_ble_eq_true rfl)) dX0_writeDecimal_66 ⟨Nat.zero_le _, Nat.zero_le _⟩) hS (fun q _ h => hFc q h) (fun q h => hFc q h) (fun r_66 u t H1 locs ht hvm w_66 hB hz1 hk1 hS => ?_)
    try dsimp only at w_66
    obtain ⟨bs_66, rfl⟩ : ∃ z, z = u := ⟨_, rfl⟩
    obtain ⟨hP1, hD1⟩ := hB
    rw [ht] at hP1
    obtain ⟨hP, hD⟩ := va_join (wr := [(a2, .inl (ka2, 30, .inl ss))]) (w1 := [(a0, .inr (1, [.ref a1, .ref a2, .ref a3, .int md])), (a3, .inl (ka3, 270, .inl bs_66))]) hP hD [0, 2] [1] rfl rfl (by decide) (by decide) hk1 hFc hP1 hD1
    generalize H1 = H at hP hS ⊢
    have hP := hP.sub (ws' := [(a0, .inr (1, [.ref a1, .ref a2, .ref a3, .int md])), (a2, .inl (ka2, 30, .inl ss)), (a3, .inl (ka3, 270, .inl bs_66))]) [1, 0, 2] rfl
    have hD := hD.sub (ws' := [(a0, .inr (1, [.ref a1, .ref a2, .ref a3, .int md])), (a2, .inl (ka2, 30, .inl ss)), (a3, .inl (ka3, 270, .inl bs_66))]) [1, 0, 2] (by decide) rfl
    refine lv_istore (lv' := [(10, .int r_66), (8, .long ab), (7, .int 0), (5, .long lw), (4, .int en), (0, .ref a0), (1, .int im), (2, .long v)]) hx hb dX0_writeDecimal_69 hl (by decide) rfl (fun ls hl => ?_)
    refine lv_iload hx hb dX0_writeDecimal_71 (lv_at hl 4 rfl) ?_
    refine lv_iconst (v := 1) hx hb dX0_writeDecimal_73 (by decide) ?_
    refine lv_isub hx hb dX0_writeDecimal_74 ?_
    refine lv_istore (lv' := [(11, .int (en - 1)), (10, .int r_66), (8, .long ab), (7, .int 0), (5, .long lw), (4, .int en), (0, .ref a0), (1, .int im), (2, .long v)]) hx hb dX0_writeDecimal_75 hl (by decide) rfl (fun ls hl => ?_)
    refine wl4 (μ := fun (rs : Int64) (ch : Int32) (i : Int32) (bx : Nat → Int32) => (i.toInt + 1).toNat) (I := fun (rs : Int64) (ch : Int32) (i : Int32) (bx : Nat → Int32) (ls : Array Slot) (H : Heap) (locs : List Loc) => lv_has ls 12 [(0, .ref a0), (1, .int im), (8, .long rs), (10, .int ch), (11, .int i)] ∧ va_P (dC, dI) vwCl [(a0, .inr (1, [.ref a1, .ref a2, .ref a3, .int md])), (a2, .inl (ka2, 30, .inl ss)), (a3, .inl (ka3, 270, .inl bx))] H ∧ va_D A [(a0, .inr (1, [.ref a1, .ref a2, .ref a3, .int md])), (a2, .inl (ka2, 30, .inl ss)), (a3, .inl (ka3, 270, .inl bx))] ∧ va_S A s.heap H locs ∧ (ch = 0 ∨ ch = 1) ∧ (fitB bs → fitB bx) ∧ (i.toInt < 9)) (fun rs ch i bx ls H locs hI ih => ?_) ab r_66 (en - 1) bs_66 ls _ _ ⟨lv_sub hl [6, 7, 2, 1, 0] rfl, hP, hD, hS, w_66.1, w_66.2, by rw [i_s1 (by omega)]; omega⟩
    obtain ⟨hl, hP, hD, hS, hch, hfb, hi9⟩ := hI
    refine lv_iload hx hb dX0_writeDecimal_77 (lv_at hl 4 rfl) ?_
    refine lv_if_lt (tgt := 120) hx hb dX0_writeDecimal_79 (by decide) (fun c_79 => ?_) (fun c_79 => ?_)
    · refine lv_iload hx hb dX0_writeDecimal_120 (lv_at hl 3 rfl) ?_
      exact W.zret (v := ch) hx hb hr (ch_nar hch) (fun t ht hW => ⟨⟨ch, bx, rfl, ⟨hch, hfb⟩, by rw [ht]; exact hP, hD⟩, hS.F ht⟩) hS.2.2 dX0_writeDecimal_122
    · have h0i := i_n0 c_79
      refine lv_lload hx hb dX0_writeDecimal_82 (lv_at hl 2 rfl) ?_
      refine lv_ldc2 (v := 10) hx hb hown (hts (.constantLong RX0 45 10) (by decide +kernel)) dX0_writeDecimal_84 ?_
      refine lv_ldiv hx hb dX0_writeDecimal_87 (by decide) ?_
      refine lv_topl (fun rq e_rq => ?_)
      refine lv_lstore (lv' := [(8, .long rq), (0, .ref a0), (1, .int im), (10, .int ch), (11, .int i)]) hx hb dX0_writeDecimal_88 hl (by decide) rfl (fun ls hl => ?_)
      refine lv_iload hx hb dX0_writeDecimal_90 (lv_at hl 3 rfl) ?_
      refine lv_aload_n hx hb dX0_writeDecimal_92 rfl (lv_at hl 1 rfl) ?_
      refine lv_iload_n hx hb dX0_writeDecimal_93 rfl (lv_at hl 2 rfl) ?_
      refine lv_iload hx hb dX0_writeDecimal_94 (lv_at hl 4 rfl) ?_
      refine lv_ldc2 (v := 48) hx hb hown (hts (.constantLong RX0 47 48) (by decide +kernel)) dX0_writeDecimal_96 ?_
      refine lv_lload hx hb dX0_writeDecimal_99 (lv_at hl 0 rfl) ?_
      refine lv_ldc2 (v := 10) hx hb hown (hts (.constantLong RX0 45 10) (by decide +kernel)) dX0_writeDecimal_101 ?_
      refine lv_lrem hx hb dX0_writeDecimal_104 (by decide) ?_
      refine lv_ladd hx hb dX0_writeDecimal_105 ?_
      refine lv_l2i hx hb dX0_writeDecimal_106 rfl ?_
      refine lv_i2b hx hb dX0_writeDecimal_107 rfl ?_
      have hPc := hP.sub (ws' := [(a0, .inr (1, [.ref a1, .ref a2, .ref a3, .int md])), (a3, .inl (ka3, 270, .inl bx))]) [0, 2] rfl
      have hKc := hK.sub (tys' := [(ka3, .byte)]) [1] rfl
      have hDc := hD.sub (ws' := [(a0, .inr (1, [.ref a1, .ref a2, .ref a3, .int md])), (a3, .inl (ka3, 270, .inl bx))]) [0, 2] (by decide) rfl
      have hFc := va_free (wc := [(a0, .inr (1, [.ref a1, .ref a2, .ref a3, .int md])), (a3, .inl (ka3, 270, .inl bx))]) hD hS hA [0, 2] rfl
      refine va_calli (va_runV (As := [.int im, .int i, .int (((48 + (rq - rq / 10 * 10)).toInt32).toInt8.toInt32)]) (rest := [.int ch]) ⟨hx, hb, hml, hown, hts⟩ (c_X0_replaceByte l dC dI H.size a0 a1 a2 a3 ka3 bx md im i (((48 + (rq - rq / 10 * 10)).toInt32).toInt8.toInt32) (ix_9 him h0i (by omega))) (cwV 3 hts gX0_writeDecimal_X0_replaceByte rfl rfl rfl (by decide +kernel) ⟨Nat.le_of_ble_eq_true rfl, Nat.le_of_ble_eq_true rfl⟩) ⟨fun a U g mk q => by obtain ⟨q0, q1, qP, qK, qD⟩ := q; exact ⟨q0, q1, qP, va_K.moved (u := U) (U := U.calling g mk a) (Vm.Alike.refl U.vm) qK, qD⟩, va_recv hKc hPc (ci := 1) (q0 := 0) rfl rfl, fun U hU hW => ⟨rfl, by rw [hU], by rw [hU]; exact hPc, va_K.moved hW.alike hKc, hDc.weaken (fun _ _ _ _ => trivial)⟩⟩ rfl rfl hl.1 rfl (lv_room (Nat.le_of_ble_eq_true rfl)) dX0_writeDecimal_108 ⟨Nat.zero_le _, Nat.zero_le _⟩) hS (fun q _ h => hFc q h) (fun q h => hFc q h) (fun r_108 u t H1 locs ht hvm w_108 hB hz1 hk1 hS => ?_)
      try dsimp only at w_108
      obtain ⟨bs_108, rfl⟩ : ∃ z, z = u := ⟨_, rfl⟩
      obtain ⟨hP1, hD1⟩ := hB
      rw [ht] at hP1
      obtain ⟨hP, hD⟩ := va_join (wr := [(a2, .inl (ka2, 30, .inl ss))]) (w1 := [(a0, .inr (1, [.ref a1, .ref a2, .ref a3, .int md])), (a3, .inl (ka3, 270, .inl bs_108))]) hP hD [0, 2] [1] rfl rfl (by decide) (by decide) hk1 hFc hP1 hD1
      generalize H1 = H at hP hS ⊢
      have hP := hP.sub (ws' := [(a0, .inr (1, [.ref a1, .ref a2, .ref a3, .int md])), (a2, .inl (ka2, 30, .inl ss)), (a3, .inl (ka3, 270, .inl bs_108))]) [1, 0, 2] rfl
      have hD := hD.sub (ws' := [(a0, .inr (1, [.ref a1, .ref a2, .ref a3, .int md])), (a2, .inl (ka2, 30, .inl ss)), (a3, .inl (ka3, 270, .inl bs_108))]) [1, 0, 2] (by decide) rfl
      refine lv_ior hx hb dX0_writeDecimal_111 ?_
      refine lv_istore (lv' := [(10, .int (ch ||| r_108)), (8, .long rq), (0, .ref a0), (1, .int im), (11, .int i)]) hx hb dX0_writeDecimal_112 hl (by decide) rfl (fun ls hl => ?_)
      obtain ⟨i_1, e_i_1⟩ : ∃ y : Int32, y = i + (-1) := ⟨_, rfl⟩
      refine lv_iinc (v := i_1) (lv' := [(11, .int i_1), (10, .int (ch ||| r_108)), (8, .long rq), (0, .ref a0), (1, .int im)]) hx hb dX0_writeDecimal_114 hl (k := 4) rfl (by rw [e_i_1]; rfl) (by decide) rfl (fun ls hl => ?_)
      refine lv_goto (tgt := 77) hx hb dX0_writeDecimal_117 (by decide) ?_
      exact ih rq (ch ||| r_108) i_1 bs_108 _ _ _ ⟨lv_sub hl [3, 4, 2, 1, 0] rfl, hP, hD, hS, ch_or hch w_108.1, fun h => w_108.2 (hfb h), by rw [e_i_1, i_m1 h0i]; omega⟩ (by rw [e_i_1, i_m1 h0i]; omega)
  · refine lv_bipush (v := 64) hx hb dX0_writeDecimal_31 (by decide) ?_
    refine lv_goto (tgt := 37) hx hb dX0_writeDecimal_33 (by decide) ?_
    refine lv_istore (lv' := [(7, .int 64), (5, .long lw), (4, .int en), (0, .ref a0), (1, .int im), (2, .long v)]) hx hb dX0_writeDecimal_37 hl (by decide) rfl (fun ls hl => ?_)
    refine lv_lload hx hb dX0_writeDecimal_39 (lv_at hl 1 rfl) ?_
    refine va_mabs_long hx hb (by rw [hml]; exact hl.1.symm) hown (hts (.methodLink RX0 68 Lib.MathLoose.abs_long.x) (by decide +kernel)) (hts (.static Lib.MathLoose.abs_long.x) (by decide +kernel)) (hts (.initialized "java/lang/Math") (by decide +kernel)) (hts (.code Lib.MathLoose.abs_long.x Lib.MathLoose.abs_long.code 2 (some .long)) (by decide +kernel)) (Nat.le_of_ble_eq_true rfl) (Nat.le_of_ble_eq_true rfl) (Nat.le_of_ble_eq_true rfl) (Nat.le_of_ble_eq_true rfl) dX0_writeDecimal_41 ?_
    refine lv_topl (fun ab e_ab => ?_)
    refine lv_lstore (lv' := [(8, .long ab), (7, .int 64), (5, .long lw), (4, .int en), (0, .ref a0), (1, .int im), (2, .long v)]) hx hb dX0_writeDecimal_44 hl (by decide) rfl (fun ls hl => ?_)
    have hen : en.toInt = (ss im.toNatClampNeg).toInt - 1 := by rw [e_en, i_s1 (by omega)]
    refine lv_aload_n hx hb dX0_writeDecimal_46 rfl (lv_at hl 4 rfl) ?_
    refine lv_iload_n hx hb dX0_writeDecimal_47 rfl (lv_at hl 5 rfl) ?_
    refine lv_iload hx hb dX0_writeDecimal_48 (lv_at hl 3 rfl) ?_
    refine lv_ldc2 (v := 48) hx hb hown (hts (.constantLong RX0 47 48) (by decide +kernel)) dX0_writeDecimal_50 ?_
    refine lv_lload hx hb dX0_writeDecimal_53 (lv_at hl 0 rfl) ?_
    refine lv_ldc2 (v := 10) hx hb hown (hts (.constantLong RX0 45 10) (by decide +kernel)) dX0_writeDecimal_55 ?_
    refine lv_lrem hx hb dX0_writeDecimal_58 (by decide) ?_
    refine lv_ladd hx hb dX0_writeDecimal_59 ?_
    refine lv_iload hx hb dX0_writeDecimal_60 (lv_at hl 1 rfl) ?_
    refine lv_i2l hx hb dX0_writeDecimal_62 rfl ?_
    refine lv_ladd hx hb dX0_writeDecimal_63 ?_
    refine lv_l2i hx hb dX0_writeDecimal_64 rfl ?_
    refine lv_i2b hx hb dX0_writeDecimal_65 rfl ?_
    have hPc := hP.sub (ws' := [(a0, .inr (1, [.ref a1, .ref a2, .ref a3, .int md])), (a3, .inl (ka3, 270, .inl bs))]) [0, 2] rfl
    have hKc := hK.sub (tys' := [(ka3, .byte)]) [1] rfl
    have hDc := hD.sub (ws' := [(a0, .inr (1, [.ref a1, .ref a2, .ref a3, .int md])), (a3, .inl (ka3, 270, .inl bs))]) [0, 2] (by decide) rfl
    have hFc := va_free (wc := [(a0, .inr (1, [.ref a1, .ref a2, .ref a3, .int md])), (a3, .inl (ka3, 270, .inl bs))]) hD hS hA [0, 2] rfl
    refine va_calli (va_runV (As := [.int im, .int en, .int ((((48 + (ab - ab / 10 * 10)) + ((64 : Int32).toInt64)).toInt32).toInt8.toInt32)]) (rest := []) ⟨hx, hb, hml, hown, hts⟩ (c_X0_replaceByte l dC dI s.heap.size a0 a1 a2 a3 ka3 bs md im en ((((48 + (ab - ab / 10 * 10)) + ((64 : Int32).toInt64)).toInt32).toInt8.toInt32) (ix_9 him (by omega) (by omega))) (cwV 3 hts gX0_writeDecimal_X0_replaceByte rfl rfl rfl (by decide +kernel) ⟨Nat.le_of_ble_eq_true rfl, Nat.le_of_ble_eq_true rfl⟩) ⟨fun a U g mk q => by obtain ⟨q0, q1, qP, qK, qD⟩ := q; exact ⟨q0, q1, qP, va_K.moved (u := U) (U := U.calling g mk a) (Vm.Alike.refl U.vm) qK, qD⟩, va_recv hKc hPc (ci := 1) (q0 := 0) rfl rfl, fun U hU hW => ⟨rfl, by rw [hU], by rw [hU]; exact hPc, va_K.moved hW.alike hKc, hDc.weaken (fun _ _ _ _ => trivial)⟩⟩ rfl rfl hl.1 rfl (lv_room (Nat.le_of_ble_eq_true rfl)) dX0_writeDecimal_66 ⟨Nat.zero_le _, Nat.zero_le _⟩) hS (fun q _ h => hFc q h) (fun q h => hFc q h) (fun r_66 u t H1 locs ht hvm w_66 hB hz1 hk1 hS => ?_)
    try dsimp only at w_66
    obtain ⟨bs_66, rfl⟩ : ∃ z, z = u := ⟨_, rfl⟩
    obtain ⟨hP1, hD1⟩ := hB
    rw [ht] at hP1
    obtain ⟨hP, hD⟩ := va_join (wr := [(a2, .inl (ka2, 30, .inl ss))]) (w1 := [(a0, .inr (1, [.ref a1, .ref a2, .ref a3, .int md])), (a3, .inl (ka3, 270, .inl bs_66))]) hP hD [0, 2] [1] rfl rfl (by decide) (by decide) hk1 hFc hP1 hD1
    generalize H1 = H at hP hS ⊢
    have hP := hP.sub (ws' := [(a0, .inr (1, [.ref a1, .ref a2, .ref a3, .int md])), (a2, .inl (ka2, 30, .inl ss)), (a3, .inl (ka3, 270, .inl bs_66))]) [1, 0, 2] rfl
    have hD := hD.sub (ws' := [(a0, .inr (1, [.ref a1, .ref a2, .ref a3, .int md])), (a2, .inl (ka2, 30, .inl ss)), (a3, .inl (ka3, 270, .inl bs_66))]) [1, 0, 2] (by decide) rfl
    refine lv_istore (lv' := [(10, .int r_66), (8, .long ab), (7, .int 64), (5, .long lw), (4, .int en), (0, .ref a0), (1, .int im), (2, .long v)]) hx hb dX0_writeDecimal_69 hl (by decide) rfl (fun ls hl => ?_)
    refine lv_iload hx hb dX0_writeDecimal_71 (lv_at hl 4 rfl) ?_
    refine lv_iconst (v := 1) hx hb dX0_writeDecimal_73 (by decide) ?_
    refine lv_isub hx hb dX0_writeDecimal_74 ?_
    refine lv_istore (lv' := [(11, .int (en - 1)), (10, .int r_66), (8, .long ab), (7, .int 64), (5, .long lw), (4, .int en), (0, .ref a0), (1, .int im), (2, .long v)]) hx hb dX0_writeDecimal_75 hl (by decide) rfl (fun ls hl => ?_)
    refine wl4 (μ := fun (rs : Int64) (ch : Int32) (i : Int32) (bx : Nat → Int32) => (i.toInt + 1).toNat) (I := fun (rs : Int64) (ch : Int32) (i : Int32) (bx : Nat → Int32) (ls : Array Slot) (H : Heap) (locs : List Loc) => lv_has ls 12 [(0, .ref a0), (1, .int im), (8, .long rs), (10, .int ch), (11, .int i)] ∧ va_P (dC, dI) vwCl [(a0, .inr (1, [.ref a1, .ref a2, .ref a3, .int md])), (a2, .inl (ka2, 30, .inl ss)), (a3, .inl (ka3, 270, .inl bx))] H ∧ va_D A [(a0, .inr (1, [.ref a1, .ref a2, .ref a3, .int md])), (a2, .inl (ka2, 30, .inl ss)), (a3, .inl (ka3, 270, .inl bx))] ∧ va_S A s.heap H locs ∧ (ch = 0 ∨ ch = 1) ∧ (fitB bs → fitB bx) ∧ (i.toInt < 9)) (fun rs ch i bx ls H locs hI ih => ?_) ab r_66 (en - 1) bs_66 ls _ _ ⟨lv_sub hl [6, 7, 2, 1, 0] rfl, hP, hD, hS, w_66.1, w_66.2, by rw [i_s1 (by omega)]; omega⟩
    obtain ⟨hl, hP, hD, hS, hch, hfb, hi9⟩ := hI
    refine lv_iload hx hb dX0_writeDecimal_77 (lv_at hl 4 rfl) ?_
    refine lv_if_lt (tgt := 120) hx hb dX0_writeDecimal_79 (by decide) (fun c_79 => ?_) (fun c_79 => ?_)
    · refine lv_iload hx hb dX0_writeDecimal_120 (lv_at hl 3 rfl) ?_
      exact W.zret (v := ch) hx hb hr (ch_nar hch) (fun t ht hW => ⟨⟨ch, bx, rfl, ⟨hch, hfb⟩, by rw [ht]; exact hP, hD⟩, hS.F ht⟩) hS.2.2 dX0_writeDecimal_122
    · have h0i := i_n0 c_79
      refine lv_lload hx hb dX0_writeDecimal_82 (lv_at hl 2 rfl) ?_
      refine lv_ldc2 (v := 10) hx hb hown (hts (.constantLong RX0 45 10) (by decide +kernel)) dX0_writeDecimal_84 ?_
      refine lv_ldiv hx hb dX0_writeDecimal_87 (by decide) ?_
      refine lv_topl (fun rq e_rq => ?_)
      refine lv_lstore (lv' := [(8, .long rq), (0, .ref a0), (1, .int im), (10, .int ch), (11, .int i)]) hx hb dX0_writeDecimal_88 hl (by decide) rfl (fun ls hl => ?_)
      refine lv_iload hx hb dX0_writeDecimal_90 (lv_at hl 3 rfl) ?_
      refine lv_aload_n hx hb dX0_writeDecimal_92 rfl (lv_at hl 1 rfl) ?_
      refine lv_iload_n hx hb dX0_writeDecimal_93 rfl (lv_at hl 2 rfl) ?_
      refine lv_iload hx hb dX0_writeDecimal_94 (lv_at hl 4 rfl) ?_
      refine lv_ldc2 (v := 48) hx hb hown (hts (.constantLong RX0 47 48) (by decide +kernel)) dX0_writeDecimal_96 ?_
      refine lv_lload hx hb dX0_writeDecimal_99 (lv_at hl 0 rfl) ?_
      refine lv_ldc2 (v := 10) hx hb hown (hts (.constantLong RX0 45 10) (by decide +kernel)) dX0_writeDecimal_101 ?_
      refine lv_lrem hx hb dX0_writeDecimal_104 (by decide) ?_
      refine lv_ladd hx hb dX0_writeDecimal_105 ?_
      refine lv_l2i hx hb dX0_writeDecimal_106 rfl ?_
      refine lv_i2b hx hb dX0_writeDecimal_107 rfl ?_
      have hPc := hP.sub (ws' := [(a0, .inr (1, [.ref a1, .ref a2, .ref a3, .int md])), (a3, .inl (ka3, 270, .inl bx))]) [0, 2] rfl
      have hKc := hK.sub (tys' := [(ka3, .byte)]) [1] rfl
      have hDc := hD.sub (ws' := [(a0, .inr (1, [.ref a1, .ref a2, .ref a3, .int md])), (a3, .inl (ka3, 270, .inl bx))]) [0, 2] (by decide) rfl
      have hFc := va_free (wc := [(a0, .inr (1, [.ref a1, .ref a2, .ref a3, .int md])), (a3, .inl (ka3, 270, .inl bx))]) hD hS hA [0, 2] rfl
      refine va_calli (va_runV (As := [.int im, .int i, .int (((48 + (rq - rq / 10 * 10)).toInt32).toInt8.toInt32)]) (rest := [.int ch]) ⟨hx, hb, hml, hown, hts⟩ (c_X0_replaceByte l dC dI H.size a0 a1 a2 a3 ka3 bx md im i (((48 + (rq - rq / 10 * 10)).toInt32).toInt8.toInt32) (ix_9 him h0i (by omega))) (cwV 3 hts gX0_writeDecimal_X0_replaceByte rfl rfl rfl (by decide +kernel) ⟨Nat.le_of_ble_eq_true rfl, Nat.le_of_ble_eq_true rfl⟩) ⟨fun a U g mk q => by obtain ⟨q0, q1, qP, qK, qD⟩ := q; exact ⟨q0, q1, qP, va_K.moved (u := U) (U := U.calling g mk a) (Vm.Alike.refl U.vm) qK, qD⟩, va_recv hKc hPc (ci := 1) (q0 := 0) rfl rfl, fun U hU hW => ⟨rfl, by rw [hU], by rw [hU]; exact hPc, va_K.moved hW.alike hKc, hDc.weaken (fun _ _ _ _ => trivial)⟩⟩ rfl rfl hl.1 rfl (lv_room (Nat.le_of_ble_eq_true rfl)) dX0_writeDecimal_108 ⟨Nat.zero_le _, Nat.zero_le _⟩) hS (fun q _ h => hFc q h) (fun q h => hFc q h) (fun r_108 u t H1 locs ht hvm w_108 hB hz1 hk1 hS => ?_)
      try dsimp only at w_108
      obtain ⟨bs_108, rfl⟩ : ∃ z, z = u := ⟨_, rfl⟩
      obtain ⟨hP1, hD1⟩ := hB
      rw [ht] at hP1
      obtain ⟨hP, hD⟩ := va_join (wr := [(a2, .inl (ka2, 30, .inl ss))]) (w1 := [(a0, .inr (1, [.ref a1, .ref a2, .ref a3, .int md])), (a3, .inl (ka3, 270, .inl bs_108))]) hP hD [0, 2] [1] rfl rfl (by decide) (by decide) hk1 hFc hP1 hD1
      generalize H1 = H at hP hS ⊢
      have hP := hP.sub (ws' := [(a0, .inr (1, [.ref a1, .ref a2, .ref a3, .int md])), (a2, .inl (ka2, 30, .inl ss)), (a3, .inl (ka3, 270, .inl bs_108))]) [1, 0, 2] rfl
      have hD := hD.sub (ws' := [(a0, .inr (1, [.ref a1, .ref a2, .ref a3, .int md])), (a2, .inl (ka2, 30, .inl ss)), (a3, .inl (ka3, 270, .inl bs_108))]) [1, 0, 2] (by decide) rfl
      refine lv_ior hx hb dX0_writeDecimal_111 ?_
      refine lv_istore (lv' := [(10, .int (ch ||| r_108)), (8, .long rq), (0, .ref a0), (1, .int im), (11, .int i)]) hx hb dX0_writeDecimal_112 hl (by decide) rfl (fun ls hl => ?_)
      obtain ⟨i_2, e_i_2⟩ : ∃ y : Int32, y = i + (-1) := ⟨_, rfl⟩
      refine lv_iinc (v := i_2) (lv' := [(11, .int i_2), (10, .int (ch ||| r_108)), (8, .long rq), (0, .ref a0), (1, .int im)]) hx hb dX0_writeDecimal_114 hl (k := 4) rfl (by rw [e_i_2]; rfl) (by decide) rfl (fun ls hl => ?_)
      refine lv_goto (tgt := 77) hx hb dX0_writeDecimal_117 (by decide) ?_
      exact ih rq (ch ||| r_108) i_2 bs_108 _ _ _ ⟨lv_sub hl [3, 4, 2, 1, 0] rfl, hP, hD, hS, ch_or hch w_108.1, fun h => w_108.2 (hfb h), by rw [e_i_2, i_m1 h0i]; omega⟩ (by rw [e_i_2, i_m1 h0i]; omega)

set_option maxHeartbeats 4000000 in
set_option maxRecDepth 100000 in
theorem c_X0_write (l : Launch) (dC : Nat → ClassId) (dI : Nat → Nat → Nat) (tT : Nat) (sz : Nat) (a0 a1 a2 a3 : Nat) (ka1 ka2 ka3 : ClassId) (us ss bs : Nat → Int32) (md : Int32) (im : Int32) (v : Int64) (him : vp_in im 30) (hs1 : 1 ≤ (ss im.toNatClampNeg).toInt) (hs9 : (ss im.toNatClampNeg).toInt ≤ 9) : Met l yX0_write wsX0_write ({ frames := 2, cells := 0, slots := 0, locals := 56 }) (va_Pc [.ref a0, .int im, .long v] (fun U => U.heap.size = sz ∧ va_P (dC, dI) vwCl [(a0, .inr (1, [.ref a1, .ref a2, .ref a3, .int md])), (a1, .inl (ka1, 30, .inl us)), (a2, .inl (ka2, 30, .inl ss)), (a3, .inl (ka3, 270, .inl bs))] U.heap ∧ va_K (dC, dI) vwCl [(ka1, .int), (ka2, .int), (ka3, .byte)] U ∧ va_D (fun _ => True) [(a0, .inr (1, [.ref a1, .ref a2, .ref a3, .int md])), (a1, .inl (ka1, 30, .inl us)), (a2, .inl (ka2, 30, .inl ss)), (a3, .inl (ka3, 270, .inl bs))] ∧ tnW tT (va_A [(a0, .inr (1, [.ref a1, .ref a2, .ref a3, .int md])), (a1, .inl (ka1, 30, .inl us)), (a2, .inl (ka2, 30, .inl ss)), (a3, .inl (ka3, 270, .inl bs))] sz) U)) (va_Qi (fun (r : Int32) (u : Nat → Int32) => (r = 0 ∨ r = 1) ∧ (fitB bs → fitB u)) (fun (u : Nat → Int32) (t : State) => va_P (dC, dI) vwCl [(a0, .inr (1, [.ref a1, .ref a2, .ref a3, .int md])), (a1, .inl (ka1, 30, .inl us)), (a2, .inl (ka2, 30, .inl ss)), (a3, .inl (ka3, 270, .inl u))] t.heap ∧ va_D (va_A [(a0, .inr (1, [.ref a1, .ref a2, .ref a3, .int md])), (a1, .inl (ka1, 30, .inl us)), (a2, .inl (ka2, 30, .inl ss)), (a3, .inl (ka3, 270, .inl bs))] sz) [(a0, .inr (1, [.ref a1, .ref a2, .ref a3, .int md])), (a1, .inl (ka1, 30, .inl us)), (a2, .inl (ka2, 30, .inl ss)), (a3, .inl (ka3, 270, .inl u))]) (va_A [(a0, .inr (1, [.ref a1, .ref a2, .ref a3, .int md])), (a1, .inl (ka1, 30, .inl us)), (a2, .inl (ka2, 30, .inl ss)), (a3, .inl (ka3, 270, .inl bs))] sz)) 0 0 (va_A [(a0, .inr (1, [.ref a1, .ref a2, .ref a3, .int md])), (a1, .inl (ka1, 30, .inl us)), (a2, .inl (ka2, 30, .inl ss)), (a3, .inl (ka3, 270, .inl bs))] sz) := by
  refine Met.ofW (cc := cX0_write) (maxL := 4) (ret := (some .boolean)) (by decide) rfl ?_
  intro p e s m args below meth c s₁ B hml hv
  obtain ⟨rfl, hsz, hP, hK, hD0, hT⟩ := hv
  have hx := B.exec
  have hb := B.bytes
  have hr := B.returns
  have hts := atoms_spec (ws := wsX0_write) B.pre
  have hown : s.vm.findClass RX0 = some m.cls := findClass_of_methodNamed B.named
  have hlocks := B.notSynchronized
  subst hsz
  have hD := hD0.self (sz := s.heap.size)
  generalize hAe : va_A [(a0, .inr (1, [.ref a1, .ref a2, .ref a3, .int md])), (a1, .inl (ka1, 30, .inl us)), (a2, .inl (ka2, 30, .inl ss)), (a3, .inl (ka3, 270, .inl bs))] s.heap.size = A at hD hT ⊢
  have hA : ∀ q : Nat, s.heap.size ≤ q → A q := fun q h => by rw [← hAe]; exact Or.inr h
  have hS : va_S A s.heap s.heap [] := va_S.rf
  obtain ⟨hZ9, hT9⟩ := id hT
  have hl := lv_entry ([.ref a0, .int im, .long v]) (n := 4) (Nat.le_of_ble_eq_true rfl)
  rw [lg_entry_eq]
  generalize (lg_sl ([.ref a0, .int im, .long v]) ++ List.replicate (4 - (lg_sl ([.ref a0, .int im, .long v])).length) Slot.unset).toArray = ls at hl ⊢
  have hl : lv_has ls 4 [(0, .ref a0), (1, .int im), (2, .long v)] := hl
  refine lv_aload_n hx hb dX0_write_0 rfl (lv_at hl 0 rfl) ?_
  refine va_get (D := (dC, dI)) (ci := 1) (v := .ref a1) (C := RX0) (T := TX0) (N := 4) hx hb hts (by decide +kernel) hown hK hP 0 rfl rfl 0 (by decide) (hts (.fieldLink RX0 11 "CobolDebugger$Items" "usages" "[I") (by decide +kernel)) (fun _ h9 => h9) rfl dX0_write_1 ?_
  refine lv_iload_n hx hb dX0_write_4 rfl (lv_at hl 1 rfl) ?_
  refine va_iald hx hb hK hP 1 0 rfl rfl (i := im) him dX0_write_5 ?_
  refine lv_iconst (v := 1) hx hb dX0_write_6 (by decide) ?_
  refine lv_icmp_ne (tgt := 19) hx hb dX0_write_7 (by decide) (fun c_7 => ?_) (fun c_7 => ?_)
  · refine lv_aload_n hx hb dX0_write_19 rfl (lv_at hl 0 rfl) ?_
    refine lv_iload_n hx hb dX0_write_20 rfl (lv_at hl 1 rfl) ?_
    refine lv_lload_n hx hb dX0_write_21 rfl (lv_at hl 2 rfl) ?_
    have hPc := hP.sub (ws' := [(a0, .inr (1, [.ref a1, .ref a2, .ref a3, .int md])), (a2, .inl (ka2, 30, .inl ss)), (a3, .inl (ka3, 270, .inl bs))]) [0, 2, 3] rfl
    have hKc := hK.sub (tys' := [(ka2, .int), (ka3, .byte)]) [1, 2] rfl
    have hDc := hD.sub (ws' := [(a0, .inr (1, [.ref a1, .ref a2, .ref a3, .int md])), (a2, .inl (ka2, 30, .inl ss)), (a3, .inl (ka3, 270, .inl bs))]) [0, 2, 3] (by decide) rfl
    have hFc := va_free (wc := [(a0, .inr (1, [.ref a1, .ref a2, .ref a3, .int md])), (a2, .inl (ka2, 30, .inl ss)), (a3, .inl (ka3, 270, .inl bs))]) hD hS hA [0, 2, 3] rfl
    refine va_calli (va_runV (As := [.int im, .long v]) (rest := []) ⟨hx, hb, hml, hown, hts⟩ (c_X0_writeDecimal l dC dI tT s.heap.size a0 a1 a2 a3 ka2 ka3 ss bs md im v (him) (hs1) (hs9)) (cwV 2 hts gX0_write_X0_writeDecimal rfl rfl rfl (by decide +kernel) ⟨Nat.le_of_ble_eq_true rfl, Nat.le_of_ble_eq_true rfl⟩) ⟨fun a U g mk q => by obtain ⟨q0, q1, qP, qK, qD, qT⟩ := q; exact ⟨q0, q1, qP, va_K.moved (u := U) (U := U.calling g mk a) (Vm.Alike.refl U.vm) qK, qD, tn_same qT⟩, va_recv hKc hPc (ci := 1) (q0 := 0) rfl rfl, fun U hU hW => ⟨rfl, by rw [hU], by rw [hU]; exact hPc, va_K.moved hW.alike hKc, hDc.weaken (fun _ _ _ _ => trivial), tn_in hW hU hS hFc hT⟩⟩ rfl rfl hl.1 rfl (lv_room (Nat.le_of_ble_eq_true rfl)) dX0_write_22 ⟨Nat.zero_le _, Nat.zero_le _⟩) hS (fun q _ h => hFc q h) (fun q h => hFc q h) (fun r_22 u t H1 locs ht hvm w_22 hB hz1 hk1 hS => ?_)
    try dsimp only at w_22
    obtain ⟨bs_22, rfl⟩ : ∃ z, z = u := ⟨_, rfl⟩
    obtain ⟨hP1, hD1⟩ := hB
    rw [ht] at hP1
    obtain ⟨hP, hD⟩ := va_join (wr := [(a1, .inl (ka1, 30, .inl us))]) (w1 := [(a0, .inr (1, [.ref a1, .ref a2, .ref a3, .int md])), (a2, .inl (ka2, 30, .inl ss)), (a3, .inl (ka3, 270, .inl bs_22))]) hP hD [0, 2, 3] [1] rfl rfl (by decide) (by decide) hk1 hFc hP1 hD1
    generalize H1 = H at hP hS ⊢
    have hP := hP.sub (ws' := [(a0, .inr (1, [.ref a1, .ref a2, .ref a3, .int md])), (a1, .inl (ka1, 30, .inl us)), (a2, .inl (ka2, 30, .inl ss)), (a3, .inl (ka3, 270, .inl bs_22))]) [1, 0, 2, 3] rfl
    have hD := hD.sub (ws' := [(a0, .inr (1, [.ref a1, .ref a2, .ref a3, .int md])), (a1, .inl (ka1, 30, .inl us)), (a2, .inl (ka2, 30, .inl ss)), (a3, .inl (ka3, 270, .inl bs_22))]) [1, 0, 2, 3] (by decide) rfl
    exact W.zret (v := r_22) hx hb hr (ch_nar w_22.1) (fun t ht hW => ⟨⟨r_22, bs_22, rfl, w_22, by rw [ht]; exact hP, hD⟩, hS.F ht⟩) hS.2.2 dX0_write_25
  · refine lv_aload_n hx hb dX0_write_10 rfl (lv_at hl 0 rfl) ?_
    refine lv_iload_n hx hb dX0_write_11 rfl (lv_at hl 1 rfl) ?_
    refine lv_lload_n hx hb dX0_write_12 rfl (lv_at hl 2 rfl) ?_
    have hPc := hP.sub (ws' := [(a0, .inr (1, [.ref a1, .ref a2, .ref a3, .int md])), (a2, .inl (ka2, 30, .inl ss)), (a3, .inl (ka3, 270, .inl bs))]) [0, 2, 3] rfl
    have hKc := hK.sub (tys' := [(ka2, .int), (ka3, .byte)]) [1, 2] rfl
    have hDc := hD.sub (ws' := [(a0, .inr (1, [.ref a1, .ref a2, .ref a3, .int md])), (a2, .inl (ka2, 30, .inl ss)), (a3, .inl (ka3, 270, .inl bs))]) [0, 2, 3] (by decide) rfl
    have hFc := va_free (wc := [(a0, .inr (1, [.ref a1, .ref a2, .ref a3, .int md])), (a2, .inl (ka2, 30, .inl ss)), (a3, .inl (ka3, 270, .inl bs))]) hD hS hA [0, 2, 3] rfl
    refine va_calli (va_runV (As := [.int im, .long v]) (rest := []) ⟨hx, hb, hml, hown, hts⟩ (c_X0_writeBinary l dC dI s.heap.size a0 a1 a2 a3 ka2 ka3 ss bs md im v (him) (hs1) (hs9)) (cwV 2 hts gX0_write_X0_writeBinary rfl rfl rfl (by decide +kernel) ⟨Nat.le_of_ble_eq_true rfl, Nat.le_of_ble_eq_true rfl⟩) ⟨fun a U g mk q => by obtain ⟨q0, q1, qP, qK, qD⟩ := q; exact ⟨q0, q1, qP, va_K.moved (u := U) (U := U.calling g mk a) (Vm.Alike.refl U.vm) qK, qD⟩, va_recv hKc hPc (ci := 1) (q0 := 0) rfl rfl, fun U hU hW => ⟨rfl, by rw [hU], by rw [hU]; exact hPc, va_K.moved hW.alike hKc, hDc.weaken (fun _ _ _ _ => trivial)⟩⟩ rfl rfl hl.1 rfl (lv_room (Nat.le_of_ble_eq_true rfl)) dX0_write_13 ⟨Nat.zero_le _, Nat.zero_le _⟩) hS (fun q _ h => hFc q h) (fun q h => hFc q h) (fun r_13 u t H1 locs ht hvm w_13 hB hz1 hk1 hS => ?_)
    try dsimp only at w_13
    obtain ⟨bs_13, rfl⟩ : ∃ z, z = u := ⟨_, rfl⟩
    obtain ⟨hP1, hD1⟩ := hB
    rw [ht] at hP1
    obtain ⟨hP, hD⟩ := va_join (wr := [(a1, .inl (ka1, 30, .inl us))]) (w1 := [(a0, .inr (1, [.ref a1, .ref a2, .ref a3, .int md])), (a2, .inl (ka2, 30, .inl ss)), (a3, .inl (ka3, 270, .inl bs_13))]) hP hD [0, 2, 3] [1] rfl rfl (by decide) (by decide) hk1 hFc hP1 hD1
    generalize H1 = H at hP hS ⊢
    have hP := hP.sub (ws' := [(a0, .inr (1, [.ref a1, .ref a2, .ref a3, .int md])), (a1, .inl (ka1, 30, .inl us)), (a2, .inl (ka2, 30, .inl ss)), (a3, .inl (ka3, 270, .inl bs_13))]) [1, 0, 2, 3] rfl
    have hD := hD.sub (ws' := [(a0, .inr (1, [.ref a1, .ref a2, .ref a3, .int md])), (a1, .inl (ka1, 30, .inl us)), (a2, .inl (ka2, 30, .inl ss)), (a3, .inl (ka3, 270, .inl bs_13))]) [1, 0, 2, 3] (by decide) rfl
    refine lv_goto (tgt := 25) hx hb dX0_write_16 (by decide) ?_
    exact W.zret (v := r_13) hx hb hr (ch_nar w_13.1) (fun t ht hW => ⟨⟨r_13, bs_13, rfl, w_13, by rw [ht]; exact hP, hD⟩, hS.F ht⟩) hS.2.2 dX0_write_25

set_option maxHeartbeats 4000000 in
set_option maxRecDepth 100000 in
theorem c_X0_make (l : Launch) (dC : Nat → ClassId) (dI : Nat → Nat → Nat) (tT : Nat) (sz : Nat) (a0 a1 a2 a3 : Nat) (ka1 ka2 ka3 : ClassId) (us ss bs : Nat → Int32) (md : Int32) (ug : Int32) (sx : Int32) (hm0 : 0 ≤ md.toInt) (hx1 : 1 ≤ sx.toInt) (hx9 : sx.toInt ≤ 9) : Met l yX0_make wsX0_make ({ frames := 3, cells := 0, slots := 0, locals := 79 }) (va_Pc [.ref a0, .int ug, .int sx] (fun U => U.heap.size = sz ∧ va_P (dC, dI) vwCl [(a0, .inr (1, [.ref a1, .ref a2, .ref a3, .int md])), (a1, .inl (ka1, 30, .inl us)), (a2, .inl (ka2, 30, .inl ss)), (a3, .inl (ka3, 270, .inl bs))] U.heap ∧ va_K (dC, dI) vwCl [(ka1, .int), (ka2, .int), (ka3, .byte)] U ∧ va_D (fun _ => True) [(a0, .inr (1, [.ref a1, .ref a2, .ref a3, .int md])), (a1, .inl (ka1, 30, .inl us)), (a2, .inl (ka2, 30, .inl ss)), (a3, .inl (ka3, 270, .inl bs))] ∧ tnW tT (va_A [(a0, .inr (1, [.ref a1, .ref a2, .ref a3, .int md])), (a1, .inl (ka1, 30, .inl us)), (a2, .inl (ka2, 30, .inl ss)), (a3, .inl (ka3, 270, .inl bs))] sz) U)) (va_Qi (fun (r : Int32) (u : Int32 × (Nat → Int32) × (Nat → Int32) × (Nat → Int32)) => (¬ md < 30 → r = (-1) ∧ u = (md, us, ss, bs)) ∧ (md < 30 → r = md ∧ u.1 = md + 1 ∧ u.2.1 = upd us md.toNatClampNeg ug ∧ u.2.2.1 = upd ss md.toNatClampNeg sx) ∧ (fitB bs → fitB u.2.2.2)) (fun (u : Int32 × (Nat → Int32) × (Nat → Int32) × (Nat → Int32)) (t : State) => va_P (dC, dI) vwCl [(a0, .inr (1, [.ref a1, .ref a2, .ref a3, .int u.1])), (a1, .inl (ka1, 30, .inl u.2.1)), (a2, .inl (ka2, 30, .inl u.2.2.1)), (a3, .inl (ka3, 270, .inl u.2.2.2))] t.heap ∧ va_D (va_A [(a0, .inr (1, [.ref a1, .ref a2, .ref a3, .int md])), (a1, .inl (ka1, 30, .inl us)), (a2, .inl (ka2, 30, .inl ss)), (a3, .inl (ka3, 270, .inl bs))] sz) [(a0, .inr (1, [.ref a1, .ref a2, .ref a3, .int u.1])), (a1, .inl (ka1, 30, .inl u.2.1)), (a2, .inl (ka2, 30, .inl u.2.2.1)), (a3, .inl (ka3, 270, .inl u.2.2.2))]) (va_A [(a0, .inr (1, [.ref a1, .ref a2, .ref a3, .int md])), (a1, .inl (ka1, 30, .inl us)), (a2, .inl (ka2, 30, .inl ss)), (a3, .inl (ka3, 270, .inl bs))] sz)) 0 0 (va_A [(a0, .inr (1, [.ref a1, .ref a2, .ref a3, .int md])), (a1, .inl (ka1, 30, .inl us)), (a2, .inl (ka2, 30, .inl ss)), (a3, .inl (ka3, 270, .inl bs))] sz) := by
  refine Met.ofW (cc := cX0_make) (maxL := 4) (ret := (some .int)) (by decide) rfl ?_
  intro p e s m args below meth c s₁ B hml hv
  obtain ⟨rfl, hsz, hP, hK, hD0, hT⟩ := hv
  have hx := B.exec
  have hb := B.bytes
  have hr := B.returns
  have hts := atoms_spec (ws := wsX0_make) B.pre
  have hown : s.vm.findClass RX0 = some m.cls := findClass_of_methodNamed B.named
  have hlocks := B.notSynchronized
  subst hsz
  have hD := hD0.self (sz := s.heap.size)
  generalize hAe : va_A [(a0, .inr (1, [.ref a1, .ref a2, .ref a3, .int md])), (a1, .inl (ka1, 30, .inl us)), (a2, .inl (ka2, 30, .inl ss)), (a3, .inl (ka3, 270, .inl bs))] s.heap.size = A at hD hT ⊢
  have hA : ∀ q : Nat, s.heap.size ≤ q → A q := fun q h => by rw [← hAe]; exact Or.inr h
  have hS : va_S A s.heap s.heap [] := va_S.rf
  obtain ⟨hZ9, hT9⟩ := id hT
  have hl := lv_entry ([.ref a0, .int ug, .int sx]) (n := 4) (Nat.le_of_ble_eq_true rfl)
  rw [lg_entry_eq]
  generalize (lg_sl ([.ref a0, .int ug, .int sx]) ++ List.replicate (4 - (lg_sl ([.ref a0, .int ug, .int sx])).length) Slot.unset).toArray = ls at hl ⊢
  have hl : lv_has ls 4 [(0, .ref a0), (1, .int ug), (2, .int sx)] := hl
  refine lv_aload_n hx hb dX0_make_0 rfl (lv_at hl 0 rfl) ?_
  refine va_get (D := (dC, dI)) (ci := 1) (v := .int md) (C := RX0) (T := TX0) (N := 4) hx hb hts (by decide +kernel) hown hK hP 0 rfl rfl 3 (by decide) (hts (.fieldLink RX0 22 "CobolDebugger$Items" "made" "I") (by decide +kernel)) (fun _ h9 => h9) rfl dX0_make_1 ?_
  refine lv_bipush (v := 30) hx hb dX0_make_4 (by decide) ?_
  refine lv_icmp_lt (tgt := 11) hx hb dX0_make_6 (by decide) (fun c_6 => ?_) (fun c_6 => ?_)
  · have him : vp_in md 30 := ix_r hm0 (by rw [i_lt] at c_6; have e1 : (30 : Int32).toInt = 30 := (by decide); omega)
    refine lv_aload_n hx hb dX0_make_11 rfl (lv_at hl 0 rfl) ?_
    refine va_get (D := (dC, dI)) (ci := 1) (v := .int md) (C := RX0) (T := TX0) (N := 4) hx hb hts (by decide +kernel) hown hK hP 0 rfl rfl 3 (by decide) (hts (.fieldLink RX0 22 "CobolDebugger$Items" "made" "I") (by decide +kernel)) (fun _ h9 => h9) rfl dX0_make_12 ?_
    refine lv_istore_n (lv' := [(3, .int md), (0, .ref a0), (1, .int ug), (2, .int sx)]) hx hb dX0_make_15 rfl hl (by decide) rfl (fun ls hl => ?_)
    refine lv_aload_n hx hb dX0_make_16 rfl (lv_at hl 1 rfl) ?_
    refine lv_dup hx hb dX0_make_17 rfl ?_
    refine va_get (D := (dC, dI)) (ci := 1) (v := .int md) (C := RX0) (T := TX0) (N := 4) hx hb hts (by decide +kernel) hown hK hP 0 rfl rfl 3 (by decide) (hts (.fieldLink RX0 22 "CobolDebugger$Items" "made" "I") (by decide +kernel)) (fun _ h9 => h9) rfl dX0_make_18 ?_
    refine lv_iconst (v := 1) hx hb dX0_make_21 (by decide) ?_
    refine lv_iadd hx hb dX0_make_22 ?_
    refine lv_topi (fun v_1 e_v_1 => ?_)
    refine va_put (D := (dC, dI)) (ci := 1) (v := .int v_1) (ty := .int) (C := RX0) (T := TX0) (N := 4) hx hb hts (by decide +kernel) tyX0 tyX0_ok nmX0 hown hK hP hD hS 0 rfl rfl 3 (by decide) (hts (.fieldLink RX0 22 "CobolDebugger$Items" "made" "I") (by decide +kernel)) (fun _ h9 => h9) rfl (by decide +kernel) rfl rfl (Nat.le_of_ble_eq_true rfl) dX0_make_23 (fun H locs hP hD hS => ?_)
    have hP : va_P (dC, dI) vwCl [(a0, .inr (1, [.ref a1, .ref a2, .ref a3, .int v_1])), (a1, .inl (ka1, 30, .inl us)), (a2, .inl (ka2, 30, .inl ss)), (a3, .inl (ka3, 270, .inl bs))] H := hP
    have hD : va_D A [(a0, .inr (1, [.ref a1, .ref a2, .ref a3, .int v_1])), (a1, .inl (ka1, 30, .inl us)), (a2, .inl (ka2, 30, .inl ss)), (a3, .inl (ka3, 270, .inl bs))] := hD
    refine lv_aload_n hx hb dX0_make_26 rfl (lv_at hl 1 rfl) ?_
    refine va_get (D := (dC, dI)) (ci := 1) (v := .ref a1) (C := RX0) (T := TX0) (N := 4) hx hb hts (by decide +kernel) hown hK hP 0 rfl rfl 0 (by decide) (hts (.fieldLink RX0 11 "CobolDebugger$Items" "usages" "[I") (by decide +kernel)) (fun _ h9 => h9) rfl dX0_make_27 ?_
    refine lv_iload_n hx hb dX0_make_30 rfl (lv_at hl 0 rfl) ?_
    refine lv_iload_n hx hb dX0_make_31 rfl (lv_at hl 2 rfl) ?_
    refine va_iast hx hb hK hP hD hS 1 0 rfl rfl (i := md) him dX0_make_32 (fun H locs hP hD hS => ?_)
    have hP : va_P (dC, dI) vwCl [(a0, .inr (1, [.ref a1, .ref a2, .ref a3, .int v_1])), (a1, .inl (ka1, 30, .inl (upd us md.toNatClampNeg ug))), (a2, .inl (ka2, 30, .inl ss)), (a3, .inl (ka3, 270, .inl bs))] H := hP
    have hD : va_D A [(a0, .inr (1, [.ref a1, .ref a2, .ref a3, .int v_1])), (a1, .inl (ka1, 30, .inl (upd us md.toNatClampNeg ug))), (a2, .inl (ka2, 30, .inl ss)), (a3, .inl (ka3, 270, .inl bs))] := hD
    obtain ⟨g_2, e_g_2⟩ : ∃ y, y = upd us md.toNatClampNeg ug := ⟨_, rfl⟩
    rw [← e_g_2] at hP hD
    refine lv_aload_n hx hb dX0_make_33 rfl (lv_at hl 1 rfl) ?_
    refine va_get (D := (dC, dI)) (ci := 1) (v := .ref a2) (C := RX0) (T := TX0) (N := 4) hx hb hts (by decide +kernel) hown hK hP 0 rfl rfl 1 (by decide) (hts (.fieldLink RX0 15 "CobolDebugger$Items" "sizes" "[I") (by decide +kernel)) (fun _ h9 => h9) rfl dX0_make_34 ?_
    refine lv_iload_n hx hb dX0_make_37 rfl (lv_at hl 0 rfl) ?_
    refine lv_iload_n hx hb dX0_make_38 rfl (lv_at hl 3 rfl) ?_
    refine va_iast hx hb hK hP hD hS 2 1 rfl rfl (i := md) him dX0_make_39 (fun H locs hP hD hS => ?_)
    have hP : va_P (dC, dI) vwCl [(a0, .inr (1, [.ref a1, .ref a2, .ref a3, .int v_1])), (a1, .inl (ka1, 30, .inl g_2)), (a2, .inl (ka2, 30, .inl (upd ss md.toNatClampNeg sx))), (a3, .inl (ka3, 270, .inl bs))] H := hP
    have hD : va_D A [(a0, .inr (1, [.ref a1, .ref a2, .ref a3, .int v_1])), (a1, .inl (ka1, 30, .inl g_2)), (a2, .inl (ka2, 30, .inl (upd ss md.toNatClampNeg sx))), (a3, .inl (ka3, 270, .inl bs))] := hD
    obtain ⟨g_3, e_g_3⟩ : ∃ y, y = upd ss md.toNatClampNeg sx := ⟨_, rfl⟩
    rw [← e_g_3] at hP hD
    refine lv_aload_n hx hb dX0_make_40 rfl (lv_at hl 1 rfl) ?_
    refine lv_iload_n hx hb dX0_make_41 rfl (lv_at hl 0 rfl) ?_
    refine lv_lconst (v := 0) hx hb dX0_make_42 (by decide) ?_
    have hPc := hP.sub (ws' := [(a0, .inr (1, [.ref a1, .ref a2, .ref a3, .int v_1])), (a1, .inl (ka1, 30, .inl g_2)), (a2, .inl (ka2, 30, .inl g_3)), (a3, .inl (ka3, 270, .inl bs))]) [0, 1, 2, 3] rfl
    have hKc := hK.sub (tys' := [(ka1, .int), (ka2, .int), (ka3, .byte)]) [0, 1, 2] rfl
    have hDc := hD.sub (ws' := [(a0, .inr (1, [.ref a1, .ref a2, .ref a3, .int v_1])), (a1, .inl (ka1, 30, .inl g_2)), (a2, .inl (ka2, 30, .inl g_3)), (a3, .inl (ka3, 270, .inl bs))]) [0, 1, 2, 3] (by decide) rfl
    have hFc := va_free (wc := [(a0, .inr (1, [.ref a1, .ref a2, .ref a3, .int v_1])), (a1, .inl (ka1, 30, .inl g_2)), (a2, .inl (ka2, 30, .inl g_3)), (a3, .inl (ka3, 270, .inl bs))]) hD hS hA [0, 1, 2, 3] rfl
    refine va_calli (va_runV (As := [.int md, .long 0]) (rest := []) ⟨hx, hb, hml, hown, hts⟩ (c_X0_write l dC dI tT H.size a0 a1 a2 a3 ka1 ka2 ka3 g_2 g_3 bs v_1 md 0 (him) (by rw [e_g_3, pk_us]; exact hx1) (by rw [e_g_3, pk_us]; exact hx9)) (cwV 2 hts gX0_make_X0_write rfl rfl rfl (by decide +kernel) ⟨Nat.le_of_ble_eq_true rfl, Nat.le_of_ble_eq_true rfl⟩) ⟨fun a U g mk q => by obtain ⟨q0, q1, qP, qK, qD, qT⟩ := q; exact ⟨q0, q1, qP, va_K.moved (u := U) (U := U.calling g mk a) (Vm.Alike.refl U.vm) qK, qD, tn_same qT⟩, va_recv hKc hPc (ci := 1) (q0 := 0) rfl rfl, fun U hU hW => ⟨rfl, by rw [hU], by rw [hU]; exact hPc, va_K.moved hW.alike hKc, hDc.weaken (fun _ _ _ _ => trivial), tn_in hW hU hS hFc hT⟩⟩ rfl rfl hl.1 rfl (lv_room (Nat.le_of_ble_eq_true rfl)) dX0_make_43 ⟨Nat.zero_le _, Nat.zero_le _⟩) hS (fun q _ h => hFc q h) (fun q h => hFc q h) (fun r_43 u t H1 locs ht hvm w_43 hB hz1 hk1 hS => ?_)
    try dsimp only at w_43
    obtain ⟨bs_43, rfl⟩ : ∃ z, z = u := ⟨_, rfl⟩
    obtain ⟨hP1, hD1⟩ := hB
    rw [ht] at hP1
    obtain ⟨hP, hD⟩ := va_join (wr := []) (w1 := [(a0, .inr (1, [.ref a1, .ref a2, .ref a3, .int v_1])), (a1, .inl (ka1, 30, .inl g_2)), (a2, .inl (ka2, 30, .inl g_3)), (a3, .inl (ka3, 270, .inl bs_43))]) hP hD [0, 1, 2, 3] [] rfl rfl (by decide) (by decide) hk1 hFc hP1 hD1
    generalize H1 = H at hP hS ⊢
    have hP := hP.sub (ws' := [(a0, .inr (1, [.ref a1, .ref a2, .ref a3, .int v_1])), (a1, .inl (ka1, 30, .inl g_2)), (a2, .inl (ka2, 30, .inl g_3)), (a3, .inl (ka3, 270, .inl bs_43))]) [0, 1, 2, 3] rfl
    have hD := hD.sub (ws' := [(a0, .inr (1, [.ref a1, .ref a2, .ref a3, .int v_1])), (a1, .inl (ka1, 30, .inl g_2)), (a2, .inl (ka2, 30, .inl g_3)), (a3, .inl (ka3, 270, .inl bs_43))]) [0, 1, 2, 3] (by decide) rfl
    refine lv_pop hx hb dX0_make_46 rfl ?_
    refine lv_iload_n hx hb dX0_make_47 rfl (lv_at hl 0 rfl) ?_
    exact W.iret (v := md) hx hb hr (fun t ht hW => ⟨⟨md, (v_1, g_2, g_3, bs_43), rfl, ⟨fun h => absurd c_6 h, fun _ => ⟨rfl, e_v_1, e_g_2, e_g_3⟩, w_43.2⟩, by rw [ht]; exact hP, hD⟩, hS.F ht⟩) hS.2.2 dX0_make_48
  · refine lv_iconst (v := (-1)) hx hb dX0_make_9 (by decide) ?_
    exact W.iret (v := (-1)) hx hb hr (fun t ht hW => ⟨⟨(-1), (md, us, ss, bs), rfl, ⟨fun _ => ⟨rfl, rfl⟩, fun h => absurd h c_6, id⟩, by rw [ht]; exact hP, hD⟩, hS.F ht⟩) hS.2.2 dX0_make_10
