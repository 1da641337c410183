set_option maxHeartbeats 4000000 in
set_option maxRecDepth 100000 in
theorem y_X4_show (l : Launch) (hst : l.stackTraces = false) (dC : Nat → ClassId) (dI : Nat → Nat → Nat) (sz sa1 sa2 sa3 : Nat) (h0 h1 h2 h3 h4 h5 h6 h7 a0 b0 p0 k0 a1 a2 a3 : Nat) (ka1 ka2 ka3 : ClassId) (us ss bs : Nat → Int32) (sn sd ft md : Int32) (im : Int32) (hit : itI md ss) (hfb : fitB bs) : vx_Met l yX4_show wsX4_show ({ frames := 6, cells := 1, slots := 6, locals := 90 }) (va_Pc [.ref h0, .int im] (fun U => U.heap.size = sz ∧ va_P (dC, dI) vwCl [(h0, .inr (5, [.ref h1, .ref h2, .ref h3, .ref h4, .int sn, .ref h5, .ref h6, .ref h7, .ref a0, .ref b0, .ref p0, .ref k0, .int sd, .int ft])), (a0, .inr (1, [.ref a1, .ref a2, .ref a3, .int md])), (a1, .inl (ka1, 30, .inl us)), (a2, .inl (ka2, 30, .inl ss)), (a3, .inl (ka3, 270, .inl bs))] U.heap ∧ va_K (dC, dI) vwCl [(ka1, .int), (ka2, .int), (ka3, .byte)] U ∧ nW U ∧ xW sa1 sa2 sa3 (va_A [] sz) U)) (va_Ql (fun (_ : Int64) (_ : Unit) => True) (fun _ _ => True) (va_A [] sz)) (vx_X (fun _ : Unit => True) (fun E _ _ => E = "java/lang/IllegalArgumentException" ∨ E = "java/lang/IllegalStateException") (va_A [] sz)) 1 6 (va_A [] sz) := by
  refine vx_ofW (cc := cX4_show) (maxL := 2) (ret := (some .long)) (by decide) rfl ?_
  intro p e s m args below meth c s₁ B hml hnt hv
  obtain ⟨rfl, hsz, hP, hK, hN, hX9⟩ := hv
  have hx := B.exec
  have hb := B.bytes
  have hr := B.returns
  have hts := atoms_spec (ws := wsX4_show) B.pre
  have hown : s.vm.findClass RX4 = some m.cls := findClass_of_methodNamed B.named
  have hlocks := B.notSynchronized
  subst hsz
  generalize hAe : va_A [] s.heap.size = A at hX9 ⊢
  have hA : ∀ q : Nat, s.heap.size ≤ q → A q := fun q h => by rw [← hAe]; exact Or.inr h
  have hS : va_S A s.heap s.heap [] := va_S.rf
  have hxw_107 : ∀ w ∈ (vx_atS RX4 107 "java/lang/IllegalArgumentException" ["java/lang/RuntimeException", "java/lang/Exception"]).filter goodWord, w ∈ wsX4_show := fun _ h => List.mem_cons_of_mem _ (List.mem_append_left _ (List.mem_append_right _ h))
  have hxw_117 : ∀ w ∈ (vx_atS RX4 117 "java/lang/IllegalStateException" ["java/lang/RuntimeException", "java/lang/Exception"]).filter goodWord, w ∈ wsX4_show := fun _ h => List.mem_cons_of_mem _ (List.mem_append_right _ h)
  have hl := lv_entry ([.ref h0, .int im]) (n := 2) (Nat.le_of_ble_eq_true rfl)
  rw [lg_entry_eq]
  generalize (lg_sl ([.ref h0, .int im]) ++ List.replicate (2 - (lg_sl ([.ref h0, .int im])).length) Slot.unset).toArray = ls at hl ⊢
  have hl : lv_has ls 2 [(0, .ref h0), (1, .int im)] := hl
  refine lv_aload_n hx hb dX4_show_0 rfl (lv_at hl 0 rfl) ?_
  refine va_get (D := (dC, dI)) (ci := 5) (v := .ref a0) (C := RX4) (T := TX4) (N := 14) hx hb hts (by decide +kernel) hown hK hP 0 rfl rfl 8 (by decide) (hts (.fieldLink RX4 35 "CobolDebugger" "items" "LCobolDebugger$Items;") (by decide +kernel)) (fun _ h9 => h9) rfl dX4_show_1 ?_
  refine lv_iload_n hx hb dX4_show_4 rfl (lv_at hl 1 rfl) ?_
  have hPc := hP.sub (ws' := [(a0, .inr (1, [.ref a1, .ref a2, .ref a3, .int md]))]) [1] rfl
  have hKc := hK.sub (tys' := []) [] rfl
  refine va_calli (va_runVN (C := RX0) (As := [.int im]) (rest := []) ⟨hx, hb, hml, hown, hts⟩ (c_X0_has l dC dI a0 a1 a2 a3 md im) ⟨va_cnB 1 hts gX4_show_X0_has_n86 rfl rfl rfl (nwm hN (RX4, 86, yX0_has, RX4) (by decide +kernel)) (hts (.initialized RX0) (by decide +kernel)) (by decide +kernel) ⟨Nat.le_of_ble_eq_true rfl, Nat.le_of_ble_eq_true rfl⟩, hts (.instanceMethod yX0_has) (by decide +kernel), hts (.selects RX0 yX0_has yX0_has) (by decide +kernel)⟩ ⟨fun a U g mk q => by obtain ⟨q0, qP, qK⟩ := q; exact ⟨q0, qP, va_K.moved (u := U) (U := U.calling g mk a) (Vm.Alike.refl U.vm) qK⟩, va_recv hKc hPc (ci := 1) (q0 := 0) rfl rfl, fun U hU hW => ⟨rfl, by rw [hU]; exact hPc, va_K.moved hW.alike hKc⟩⟩ rfl rfl hl.1 rfl (lv_room (Nat.le_of_ble_eq_true rfl)) dX4_show_5 ⟨Nat.zero_le _, Nat.zero_le _⟩) hS (fun q _ h => h.elim) (fun q h => h.elim) (fun r_5 u t H1 locs ht hvm w_5 hB hz1 hk1 hS => ?_)
  try dsimp only at w_5
  have hP := rd_keep hP hk1
  clear hB hk1 hz1 ht hvm u t
  generalize H1 = H at hP hS ⊢
  have w_5 := z01 w_5
  refine lv_if_ne (tgt := 21) hx hb dX4_show_8 (by decide) (fun c_8 => ?_) (fun c_8 => ?_)
  · have hq0 := i_n0 (fun h => c_8 (w_5.mpr (Or.inl h)))
    have hq1 := n_lt (fun h => c_8 (w_5.mpr (Or.inr h)))
    have him : vp_in im 30 := it_in hit hq0 hq1
    have hsz := it_s hit hq0 hq1
    refine lv_aload_n hx hb dX4_show_21 rfl (lv_at hl 0 rfl) ?_
    refine va_get (D := (dC, dI)) (ci := 5) (v := .ref a0) (C := RX4) (T := TX4) (N := 14) hx hb hts (by decide +kernel) hown hK hP 0 rfl rfl 8 (by decide) (hts (.fieldLink RX4 35 "CobolDebugger" "items" "LCobolDebugger$Items;") (by decide +kernel)) (fun _ h9 => h9) rfl dX4_show_22 ?_
    refine lv_iload_n hx hb dX4_show_25 rfl (lv_at hl 1 rfl) ?_
    have hPc := hP.sub (ws' := [(a0, .inr (1, [.ref a1, .ref a2, .ref a3, .int md])), (a1, .inl (ka1, 30, .inl us)), (a2, .inl (ka2, 30, .inl ss)), (a3, .inl (ka3, 270, .inl bs))]) [1, 2, 3, 4] rfl
    have hKc := hK.sub (tys' := [(ka1, .int), (ka2, .int), (ka3, .byte)]) [0, 1, 2] rfl
    refine va_calli (va_runVN (C := RX0) (As := [.int im]) (rest := []) ⟨hx, hb, hml, hown, hts⟩ (c_X0_isBad l dC dI a0 a1 a2 a3 ka1 ka2 ka3 us ss bs md im (him) (hsz.1) (hsz.2) (hfb)) ⟨va_cnB 1 hts gX4_show_X0_isBad_n110 rfl rfl rfl (nwm hN (RX4, 110, yX0_isBad, RX4) (by decide +kernel)) (hts (.initialized RX0) (by decide +kernel)) (by decide +kernel) ⟨Nat.le_of_ble_eq_true rfl, Nat.le_of_ble_eq_true rfl⟩, hts (.instanceMethod yX0_isBad) (by decide +kernel), hts (.selects RX0 yX0_isBad yX0_isBad) (by decide +kernel)⟩ ⟨fun a U g mk q => by obtain ⟨q0, qP, qK⟩ := q; exact ⟨q0, qP, va_K.moved (u := U) (U := U.calling g mk a) (Vm.Alike.refl U.vm) qK⟩, va_recv hKc hPc (ci := 1) (q0 := 0) rfl rfl, fun U hU hW => ⟨rfl, by rw [hU]; exact hPc, va_K.moved hW.alike hKc⟩⟩ rfl rfl hl.1 rfl (lv_room (Nat.le_of_ble_eq_true rfl)) dX4_show_26 ⟨Nat.zero_le _, Nat.zero_le _⟩) hS (fun q _ h => h.elim) (fun q h => h.elim) (fun r_26 u t H1 locs ht hvm w_26 hB hz1 hk1 hS => ?_)
    try dsimp only at w_26
    have hP := rd_keep hP hk1
    clear hB hk1 hz1 ht hvm u t
    generalize H1 = H at hP hS ⊢
    refine lv_if_eq (tgt := 42) hx hb dX4_show_29 (by decide) (fun c_29 => ?_) (fun c_29 => ?_)
    · refine lv_aload_n hx hb dX4_show_42 rfl (lv_at hl 0 rfl) ?_
      refine va_get (D := (dC, dI)) (ci := 5) (v := .ref a0) (C := RX4) (T := TX4) (N := 14) hx hb hts (by decide +kernel) hown hK hP 0 rfl rfl 8 (by decide) (hts (.fieldLink RX4 35 "CobolDebugger" "items" "LCobolDebugger$Items;") (by decide +kernel)) (fun _ h9 => h9) rfl dX4_show_43 ?_
      refine lv_iload_n hx hb dX4_show_46 rfl (lv_at hl 1 rfl) ?_
      have hPc := hP.sub (ws' := [(a0, .inr (1, [.ref a1, .ref a2, .ref a3, .int md])), (a1, .inl (ka1, 30, .inl us)), (a2, .inl (ka2, 30, .inl ss)), (a3, .inl (ka3, 270, .inl bs))]) [1, 2, 3, 4] rfl
      have hKc := hK.sub (tys' := [(ka1, .int), (ka2, .int), (ka3, .byte)]) [0, 1, 2] rfl
      refine va_calll (va_runVN (C := RX0) (As := [.int im]) (rest := []) ⟨hx, hb, hml, hown, hts⟩ (c_X0_says l dC dI a0 a1 a2 a3 ka1 ka2 ka3 us ss bs md im (him) (hsz.1) (hsz.2) (hfb)) ⟨va_cnB 1 hts gX4_show_X0_says_n118 rfl rfl rfl (nwm hN (RX4, 118, yX0_says, RX4) (by decide +kernel)) (hts (.initialized RX0) (by decide +kernel)) (by decide +kernel) ⟨Nat.le_of_ble_eq_true rfl, Nat.le_of_ble_eq_true rfl⟩, hts (.instanceMethod yX0_says) (by decide +kernel), hts (.selects RX0 yX0_says yX0_says) (by decide +kernel)⟩ ⟨fun a U g mk q => by obtain ⟨q0, qP, qK⟩ := q; exact ⟨q0, qP, va_K.moved (u := U) (U := U.calling g mk a) (Vm.Alike.refl U.vm) qK⟩, va_recv hKc hPc (ci := 1) (q0 := 0) rfl rfl, fun U hU hW => ⟨rfl, by rw [hU]; exact hPc, va_K.moved hW.alike hKc⟩⟩ rfl rfl hl.1 rfl (lv_room (Nat.le_of_ble_eq_true rfl)) dX4_show_47 ⟨Nat.zero_le _, Nat.zero_le _⟩) hS (fun q _ h => h.elim) (fun q h => h.elim) (fun r_47 u t H1 locs ht hvm w_47 hB hz1 hk1 hS => ?_)
      try dsimp only at w_47
      have hP := rd_keep hP hk1
      clear hB hk1 hz1 ht hvm u t
      generalize H1 = H at hP hS ⊢
      refine W.widen (k := 1) (n := 6) (Nat.le_of_ble_eq_true rfl) (Nat.le_of_ble_eq_true rfl) ?_
      refine vx_ret ?_
      exact W.lret (v := r_47) hx hb hr (fun t ht hW => ⟨⟨r_47, (), rfl, trivial, trivial⟩, hS.F ht⟩) hS.2.2 dX4_show_50
    · have hat : ∀ w ∈ vx_atS RX4 117 "java/lang/IllegalStateException" ["java/lang/RuntimeException", "java/lang/Exception"], w.before [.ref h0, .int im].toArray s = true := vx_hat (B := Cond.castable "java/lang/IllegalStateException" "java/lang/IllegalStateException" :: xD.map Cond.declares) (fun w h => hts w (hxw_117 w h)) xb_117 (vx_c (va_Nw.use rfl (hX9.2.2.2.2.2.1 ("java/lang/IllegalStateException", "java/lang/IllegalStateException") (by decide +kernel))) (fun w h => by obtain ⟨y, hy, rfl⟩ := List.mem_map.mp h; exact va_Nw.use rfl (hX9.2.2.2.2.2.2 y hy)))
      exact vx_throwS (A := A) (text := "a byte of the item is no digit") (names := ["java/lang/RuntimeException", "java/lang/Exception"]) (sa := sa2) hx hb hst hown (by decide +kernel) (by decide +kernel) (hts (.classLink RX4 113 "java/lang/IllegalStateException") (by decide +kernel)) (hts (.initialized "java/lang/IllegalStateException") (by decide +kernel)) hX9.2.1 hat (fun w h => by rcases List.mem_cons.mp h with rfl | h; rfl; rcases List.mem_cons.mp h with rfl | h; rfl; exact xg_117 w h) hX9.2.2.2.1 hX9.2.2.2.2.1 hS (by rw [hml]; exact hl.1) dX4_show_32 dX4_show_35 dX4_show_36 dX4_show_38 dX4_show_41 (fun x hx => (hnt x hx).elim) (Nat.le_of_ble_eq_true rfl) (Nat.le_of_ble_eq_true rfl) (Nat.le_of_ble_eq_true rfl) (Nat.le_of_ble_eq_true rfl) hlocks (fun t hv hz hq => ⟨(), trivial, Or.inr rfl, Nat.le_trans hS.1 hz, fun q h1 h2 => (hq q (Nat.lt_of_lt_of_le h1 hS.1)).trans (hS.2.1 q h1 h2)⟩) hS.2.2 (Nat.le_of_ble_eq_true rfl) (Nat.le_of_ble_eq_true rfl)
  · have hat : ∀ w ∈ vx_atS RX4 107 "java/lang/IllegalArgumentException" ["java/lang/RuntimeException", "java/lang/Exception"], w.before [.ref h0, .int im].toArray s = true := vx_hat (B := Cond.castable "java/lang/IllegalArgumentException" "java/lang/IllegalArgumentException" :: xD.map Cond.declares) (fun w h => hts w (hxw_107 w h)) xb_107 (vx_c (va_Nw.use rfl (hX9.2.2.2.2.2.1 ("java/lang/IllegalArgumentException", "java/lang/IllegalArgumentException") (by decide +kernel))) (fun w h => by obtain ⟨y, hy, rfl⟩ := List.mem_map.mp h; exact va_Nw.use rfl (hX9.2.2.2.2.2.2 y hy)))
    exact vx_throwS (A := A) (text := "no such item") (names := ["java/lang/RuntimeException", "java/lang/Exception"]) (sa := sa1) hx hb hst hown (by decide +kernel) (by decide +kernel) (hts (.classLink RX4 103 "java/lang/IllegalArgumentException") (by decide +kernel)) (hts (.initialized "java/lang/IllegalArgumentException") (by decide +kernel)) hX9.1 hat (fun w h => by rcases List.mem_cons.mp h with rfl | h; rfl; rcases List.mem_cons.mp h with rfl | h; rfl; exact xg_107 w h) hX9.2.2.2.1 hX9.2.2.2.2.1 hS (by rw [hml]; exact hl.1) dX4_show_11 dX4_show_14 dX4_show_15 dX4_show_17 dX4_show_20 (fun x hx => (hnt x hx).elim) (Nat.le_of_ble_eq_true rfl) (Nat.le_of_ble_eq_true rfl) (Nat.le_of_ble_eq_true rfl) (Nat.le_of_ble_eq_true rfl) hlocks (fun t hv hz hq => ⟨(), trivial, Or.inl rfl, Nat.le_trans hS.1 hz, fun q h1 h2 => (hq q (Nat.lt_of_lt_of_le h1 hS.1)).trans (hS.2.1 q h1 h2)⟩) hS.2.2 (Nat.le_of_ble_eq_true rfl) (Nat.le_of_ble_eq_true rfl)

theorem gX4_octetX_X0_hasByte_n150 : GoodIn wsX4_octetX wsX0_hasByte := fun w h => ⟨List.mem_append_left _ (ggX4_octet_X0_hasByte w h).1, (ggX4_octet_X0_hasByte w h).2⟩
theorem gX4_octetX_X0_byteAt_n158 : GoodIn wsX4_octetX wsX0_byteAt := fun w h => ⟨List.mem_append_left _ (ggX4_octet_X0_byteAt w h).1, (ggX4_octet_X0_byteAt w h).2⟩

set_option maxHeartbeats 4000000 in
set_option maxRecDepth 100000 in
theorem y_X4_octet (l : Launch) (hst : l.stackTraces = false) (dC : Nat → ClassId) (dI : Nat → Nat → Nat) (sz sa1 sa2 sa3 : Nat) (h0 h1 h2 h3 h4 h5 h6 h7 a0 b0 p0 k0 a1 a2 a3 : Nat) (ka1 ka2 ka3 : ClassId) (us ss bs : Nat → Int32) (sn sd ft md : Int32) (im i : Int32) (hit : itI md ss) (hfb : fitB bs) : vx_Met l yX4_octet wsX4_octetX ({ frames := 7, cells := 1, slots := 6, locals := 110 }) (va_Pc [.ref h0, .int im, .int i] (fun U => U.heap.size = sz ∧ va_P (dC, dI) vwCl [(h0, .inr (5, [.ref h1, .ref h2, .ref h3, .ref h4, .int sn, .ref h5, .ref h6, .ref h7, .ref a0, .ref b0, .ref p0, .ref k0, .int sd, .int ft])), (a0, .inr (1, [.ref a1, .ref a2, .ref a3, .int md])), (a1, .inl (ka1, 30, .inl us)), (a2, .inl (ka2, 30, .inl ss)), (a3, .inl (ka3, 270, .inl bs))] U.heap ∧ va_K (dC, dI) vwCl [(ka1, .int), (ka2, .int), (ka3, .byte)] U ∧ nW U ∧ xW sa1 sa2 sa3 (va_A [] sz) U)) (va_Qi (fun (_ : Int32) (_ : Unit) => True) (fun _ _ => True) (va_A [] sz)) (vx_X (fun _ : Unit => True) (fun E _ _ => E = "java/lang/ArrayIndexOutOfBoundsException") (va_A [] sz)) 1 6 (va_A [] sz) := by
  refine vx_ofW (cc := cX4_octet) (maxL := 3) (ret := (some .byte)) (by decide) rfl ?_
  intro p e s m args below meth c s₁ B hml hnt hv
  obtain ⟨rfl, hsz, hP, hK, hN, hX9⟩ := hv
  have hx := B.exec
  have hb := B.bytes
  have hr := B.returns
  have hts := atoms_spec (ws := wsX4_octetX) B.pre
  have hown : s.vm.findClass RX4 = some m.cls := findClass_of_methodNamed B.named
  have hlocks := B.notSynchronized
  subst hsz
  generalize hAe : va_A [] s.heap.size = A at hX9 ⊢
  have hA : ∀ q : Nat, s.heap.size ≤ q → A q := fun q h => by rw [← hAe]; exact Or.inr h
  have hS : va_S A s.heap s.heap [] := va_S.rf
  have hxw_157 : ∀ w ∈ (vx_atS RX4 157 "java/lang/ArrayIndexOutOfBoundsException" ["java/lang/IndexOutOfBoundsException", "java/lang/RuntimeException", "java/lang/Exception"]).filter goodWord, w ∈ wsX4_octetX := fun _ h => List.mem_append_right _ h
  have hl := lv_entry ([.ref h0, .int im, .int i]) (n := 3) (Nat.le_of_ble_eq_true rfl)
  rw [lg_entry_eq]
  generalize (lg_sl ([.ref h0, .int im, .int i]) ++ List.replicate (3 - (lg_sl ([.ref h0, .int im, .int i])).length) Slot.unset).toArray = ls at hl ⊢
  have hl : lv_has ls 3 [(0, .ref h0), (1, .int im), (2, .int i)] := hl
  refine lv_aload_n hx hb dX4_octet_0 rfl (lv_at hl 0 rfl) ?_
  refine va_get (D := (dC, dI)) (ci := 5) (v := .ref a0) (C := RX4) (T := TX4) (N := 14) hx hb hts (by decide +kernel) hown hK hP 0 rfl rfl 8 (by decide) (hts (.fieldLink RX4 35 "CobolDebugger" "items" "LCobolDebugger$Items;") (by decide +kernel)) (fun _ h9 => h9) rfl dX4_octet_1 ?_
  refine lv_iload_n hx hb dX4_octet_4 rfl (lv_at hl 1 rfl) ?_
  have hPc := hP.sub (ws' := [(a0, .inr (1, [.ref a1, .ref a2, .ref a3, .int md]))]) [1] rfl
  have hKc := hK.sub (tys' := []) [] rfl
  refine va_calli (va_runVN (C := RX0) (As := [.int im]) (rest := []) ⟨hx, hb, hml, hown, hts⟩ (c_X0_has l dC dI a0 a1 a2 a3 md im) ⟨va_cnB 1 hts gX4_octetX_X0_has_n86 rfl rfl rfl (nwm hN (RX4, 86, yX0_has, RX4) (by decide +kernel)) (hts (.initialized RX0) (by decide +kernel)) (by decide +kernel) ⟨Nat.le_of_ble_eq_true rfl, Nat.le_of_ble_eq_true rfl⟩, hts (.instanceMethod yX0_has) (by decide +kernel), hts (.selects RX0 yX0_has yX0_has) (by decide +kernel)⟩ ⟨fun a U g mk q => by obtain ⟨q0, qP, qK⟩ := q; exact ⟨q0, qP, va_K.moved (u := U) (U := U.calling g mk a) (Vm.Alike.refl U.vm) qK⟩, va_recv hKc hPc (ci := 1) (q0 := 0) rfl rfl, fun U hU hW => ⟨rfl, by rw [hU]; exact hPc, va_K.moved hW.alike hKc⟩⟩ rfl rfl hl.1 rfl (lv_room (Nat.le_of_ble_eq_true rfl)) dX4_octet_5 ⟨Nat.zero_le _, Nat.zero_le _⟩) hS (fun q _ h => h.elim) (fun q h => h.elim) (fun r_5 u t H1 locs ht hvm w_5 hB hz1 hk1 hS => ?_)
  try dsimp only at w_5
  have hP := rd_keep hP hk1
  clear hB hk1 hz1 ht hvm u t
  generalize H1 = H at hP hS ⊢
  have w_5 := z01 w_5
  refine lv_if_eq (tgt := 23) hx hb dX4_octet_8 (by decide) (fun c_8 => ?_) (fun c_8 => ?_)
  · have hat : ∀ w ∈ vx_atS RX4 157 "java/lang/ArrayIndexOutOfBoundsException" ["java/lang/IndexOutOfBoundsException", "java/lang/RuntimeException", "java/lang/Exception"], w.before [.ref h0, .int im, .int i].toArray s = true := vx_hat (B := Cond.castable "java/lang/ArrayIndexOutOfBoundsException" "java/lang/ArrayIndexOutOfBoundsException" :: xD.map Cond.declares) (fun w h => hts w (hxw_157 w h)) xb_157 (vx_c (va_Nw.use rfl (hX9.2.2.2.2.2.1 ("java/lang/ArrayIndexOutOfBoundsException", "java/lang/ArrayIndexOutOfBoundsException") (by decide +kernel))) (fun w h => by obtain ⟨y, hy, rfl⟩ := List.mem_map.mp h; exact va_Nw.use rfl (hX9.2.2.2.2.2.2 y hy)))
    exact vx_throwS (A := A) (text := "no such item or byte") (names := ["java/lang/IndexOutOfBoundsException", "java/lang/RuntimeException", "java/lang/Exception"]) (sa := sa3) hx hb hst hown (by decide +kernel) (by decide +kernel) (hts (.classLink RX4 153 "java/lang/ArrayIndexOutOfBoundsException") (by decide +kernel)) (hts (.initialized "java/lang/ArrayIndexOutOfBoundsException") (by decide +kernel)) hX9.2.2.1 hat (fun w h => by rcases List.mem_cons.mp h with rfl | h; rfl; rcases List.mem_cons.mp h with rfl | h; rfl; exact xg_157 w h) hX9.2.2.2.1 hX9.2.2.2.2.1 hS (by rw [hml]; exact hl.1) dX4_octet_23 dX4_octet_26 dX4_octet_27 dX4_octet_29 dX4_octet_32 (fun x hx => (hnt x hx).elim) (Nat.le_of_ble_eq_true rfl) (Nat.le_of_ble_eq_true rfl) (Nat.le_of_ble_eq_true rfl) (Nat.le_of_ble_eq_true rfl) hlocks (fun t hv hz hq => ⟨(), trivial, rfl, Nat.le_trans hS.1 hz, fun q h1 h2 => (hq q (Nat.lt_of_lt_of_le h1 hS.1)).trans (hS.2.1 q h1 h2)⟩) hS.2.2 (Nat.le_of_ble_eq_true rfl) (Nat.le_of_ble_eq_true rfl)
  · have hq0 := i_n0 (fun h => c_8 (w_5.mpr (Or.inl h)))
    have hq1 := n_lt (fun h => c_8 (w_5.mpr (Or.inr h)))
    have him : vp_in im 30 := it_in hit hq0 hq1
    have hsz := it_s hit hq0 hq1
    refine lv_aload_n hx hb dX4_octet_11 rfl (lv_at hl 0 rfl) ?_
    refine va_get (D := (dC, dI)) (ci := 5) (v := .ref a0) (C := RX4) (T := TX4) (N := 14) hx hb hts (by decide +kernel) hown hK hP 0 rfl rfl 8 (by decide) (hts (.fieldLink RX4 35 "CobolDebugger" "items" "LCobolDebugger$Items;") (by decide +kernel)) (fun _ h9 => h9) rfl dX4_octet_12 ?_
    refine lv_iload_n hx hb dX4_octet_15 rfl (lv_at hl 1 rfl) ?_
    refine lv_iload_n hx hb dX4_octet_16 rfl (lv_at hl 2 rfl) ?_
    have hPc := hP.sub (ws' := [(a0, .inr (1, [.ref a1, .ref a2, .ref a3, .int md])), (a2, .inl (ka2, 30, .inl ss))]) [1, 3] rfl
    have hKc := hK.sub (tys' := [(ka2, .int)]) [1] rfl
    refine va_calli (va_runVN (C := RX0) (As := [.int im, .int i]) (rest := []) ⟨hx, hb, hml, hown, hts⟩ (c_X0_hasByte l dC dI a0 a1 a2 a3 ka2 ss md im i (him)) ⟨va_cnB 2 hts gX4_octetX_X0_hasByte_n150 rfl rfl rfl (nwm hN (RX4, 150, yX0_hasByte, RX4) (by decide +kernel)) (hts (.initialized RX0) (by decide +kernel)) (by decide +kernel) ⟨Nat.le_of_ble_eq_true rfl, Nat.le_of_ble_eq_true rfl⟩, hts (.instanceMethod yX0_hasByte) (by decide +kernel), hts (.selects RX0 yX0_hasByte yX0_hasByte) (by decide +kernel)⟩ ⟨fun a U g mk q => by obtain ⟨q0, qP, qK⟩ := q; exact ⟨q0, qP, va_K.moved (u := U) (U := U.calling g mk a) (Vm.Alike.refl U.vm) qK⟩, va_recv hKc hPc (ci := 1) (q0 := 0) rfl rfl, fun U hU hW => ⟨rfl, by rw [hU]; exact hPc, va_K.moved hW.alike hKc⟩⟩ rfl rfl hl.1 rfl (lv_room (Nat.le_of_ble_eq_true rfl)) dX4_octet_17 ⟨Nat.zero_le _, Nat.zero_le _⟩) hS (fun q _ h => h.elim) (fun q h => h.elim) (fun r_17 u t H1 locs ht hvm w_17 hB hz1 hk1 hS => ?_)
    try dsimp only at w_17
    have hP := rd_keep hP hk1
    clear hB hk1 hz1 ht hvm u t
    generalize H1 = H at hP hS ⊢
    have w_17 := z01 w_17
    refine lv_if_ne (tgt := 33) hx hb dX4_octet_20 (by decide) (fun c_20 => ?_) (fun c_20 => ?_)
    · refine lv_aload_n hx hb dX4_octet_33 rfl (lv_at hl 0 rfl) ?_
      refine va_get (D := (dC, dI)) (ci := 5) (v := .ref a0) (C := RX4) (T := TX4) (N := 14) hx hb hts (by decide +kernel) hown hK hP 0 rfl rfl 8 (by decide) (hts (.fieldLink RX4 35 "CobolDebugger" "items" "LCobolDebugger$Items;") (by decide +kernel)) (fun _ h9 => h9) rfl dX4_octet_34 ?_
      refine lv_iload_n hx hb dX4_octet_37 rfl (lv_at hl 1 rfl) ?_
      refine lv_iload_n hx hb dX4_octet_38 rfl (lv_at hl 2 rfl) ?_
      have hPc := hP.sub (ws' := [(a0, .inr (1, [.ref a1, .ref a2, .ref a3, .int md])), (a3, .inl (ka3, 270, .inl bs))]) [1, 4] rfl
      have hKc := hK.sub (tys' := [(ka3, .byte)]) [2] rfl
      refine va_calli (va_runVN (C := RX0) (As := [.int im, .int i]) (rest := []) ⟨hx, hb, hml, hown, hts⟩ (c_X0_byteAt l dC dI a0 a1 a2 a3 ka3 bs md im i (ix_9 him (i_n0 (fun h => c_20 (w_17.mpr (Or.inl h)))) (by have := n_lt (fun h => c_20 (w_17.mpr (Or.inr h))); have := hsz.2; omega)) (hfb)) ⟨va_cnB 2 hts gX4_octetX_X0_byteAt_n158 rfl rfl rfl (nwm hN (RX4, 158, yX0_byteAt, RX4) (by decide +kernel)) (hts (.initialized RX0) (by decide +kernel)) (by decide +kernel) ⟨Nat.le_of_ble_eq_true rfl, Nat.le_of_ble_eq_true rfl⟩, hts (.instanceMethod yX0_byteAt) (by decide +kernel), hts (.selects RX0 yX0_byteAt yX0_byteAt) (by decide +kernel)⟩ ⟨fun a U g mk q => by obtain ⟨q0, qP, qK⟩ := q; exact ⟨q0, qP, va_K.moved (u := U) (U := U.calling g mk a) (Vm.Alike.refl U.vm) qK⟩, va_recv hKc hPc (ci := 1) (q0 := 0) rfl rfl, fun U hU hW => ⟨rfl, by rw [hU]; exact hPc, va_K.moved hW.alike hKc⟩⟩ rfl rfl hl.1 rfl (lv_room (Nat.le_of_ble_eq_true rfl)) dX4_octet_39 ⟨Nat.zero_le _, Nat.zero_le _⟩) hS (fun q _ h => h.elim) (fun q h => h.elim) (fun r_39 u t H1 locs ht hvm w_39 hB hz1 hk1 hS => ?_)
      try dsimp only at w_39
      have hP := rd_keep hP hk1
      clear hB hk1 hz1 ht hvm u t
      generalize H1 = H at hP hS ⊢
      refine W.widen (k := 1) (n := 6) (Nat.le_of_ble_eq_true rfl) (Nat.le_of_ble_eq_true rfl) ?_
      refine vx_ret ?_
      exact W.zret (v := r_39) hx hb hr w_39 (fun t ht hW => ⟨⟨r_39, (), rfl, trivial, trivial⟩, hS.F ht⟩) hS.2.2 dX4_octet_42
    · have hat : ∀ w ∈ vx_atS RX4 157 "java/lang/ArrayIndexOutOfBoundsException" ["java/lang/IndexOutOfBoundsException", "java/lang/RuntimeException", "java/lang/Exception"], w.before [.ref h0, .int im, .int i].toArray s = true := vx_hat (B := Cond.castable "java/lang/ArrayIndexOutOfBoundsException" "java/lang/ArrayIndexOutOfBoundsException" :: xD.map Cond.declares) (fun w h => hts w (hxw_157 w h)) xb_157 (vx_c (va_Nw.use rfl (hX9.2.2.2.2.2.1 ("java/lang/ArrayIndexOutOfBoundsException", "java/lang/ArrayIndexOutOfBoundsException") (by decide +kernel))) (fun w h => by obtain ⟨y, hy, rfl⟩ := List.mem_map.mp h; exact va_Nw.use rfl (hX9.2.2.2.2.2.2 y hy)))
      exact vx_throwS (A := A) (text := "no such item or byte") (names := ["java/lang/IndexOutOfBoundsException", "java/lang/RuntimeException", "java/lang/Exception"]) (sa := sa3) hx hb hst hown (by decide +kernel) (by decide +kernel) (hts (.classLink RX4 153 "java/lang/ArrayIndexOutOfBoundsException") (by decide +kernel)) (hts (.initialized "java/lang/ArrayIndexOutOfBoundsException") (by decide +kernel)) hX9.2.2.1 hat (fun w h => by rcases List.mem_cons.mp h with rfl | h; rfl; rcases List.mem_cons.mp h with rfl | h; rfl; exact xg_157 w h) hX9.2.2.2.1 hX9.2.2.2.2.1 hS (by rw [hml]; exact hl.1) dX4_octet_23 dX4_octet_26 dX4_octet_27 dX4_octet_29 dX4_octet_32 (fun x hx => (hnt x hx).elim) (Nat.le_of_ble_eq_true rfl) (Nat.le_of_ble_eq_true rfl) (Nat.le_of_ble_eq_true rfl) (Nat.le_of_ble_eq_true rfl) hlocks (fun t hv hz hq => ⟨(), trivial, rfl, Nat.le_trans hS.1 hz, fun q h1 h2 => (hq q (Nat.lt_of_lt_of_le h1 hS.1)).trans (hS.2.1 q h1 h2)⟩) hS.2.2 (Nat.le_of_ble_eq_true rfl) (Nat.le_of_ble_eq_true rfl)
