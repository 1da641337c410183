set_option maxHeartbeats 4000000 in
set_option maxRecDepth 100000 in
theorem c_X3_make (l : Launch) (dC : Nat → ClassId) (dI : Nat → Nat → Nat) (sz : Nat) (b0 b1 b2 b3 : Nat) (kb1 kb2 kb3 : ClassId) (kd of cd : Nat → Int32) (sm : Int32) (kn : Int32) (oo : Int32) (co : Int32) (hm0 : 0 ≤ sm.toInt) : Met l yX3_make wsX3_make ({ frames := 0, cells := 0, slots := 0, locals := 0 }) (va_Pc [.ref b0, .int kn, .int oo, .int co] (fun U => U.heap.size = sz ∧ va_P (dC, dI) vwCl [(b0, .inr (4, [.ref b1, .ref b2, .ref b3, .int sm])), (b1, .inl (kb1, 20, .inl kd)), (b2, .inl (kb2, 20, .inl of)), (b3, .inl (kb3, 20, .inl cd))] U.heap ∧ va_K (dC, dI) vwCl [(kb1, .int), (kb2, .int), (kb3, .int)] U ∧ va_D (fun _ => True) [(b0, .inr (4, [.ref b1, .ref b2, .ref b3, .int sm])), (b1, .inl (kb1, 20, .inl kd)), (b2, .inl (kb2, 20, .inl of)), (b3, .inl (kb3, 20, .inl cd))])) (va_Qi (fun (r : Int32) (u : Int32 × (Nat → Int32) × (Nat → Int32) × (Nat → Int32)) => (¬ sm < 20 → r = (-1) ∧ u = (sm, kd, of, cd)) ∧ (sm < 20 → r = sm + 1 ∧ u.1 = sm + 1 ∧ u.2.1 = upd kd sm.toNatClampNeg kn ∧ u.2.2.1 = upd of sm.toNatClampNeg oo ∧ u.2.2.2 = upd cd sm.toNatClampNeg co)) (fun (u : Int32 × (Nat → Int32) × (Nat → Int32) × (Nat → Int32)) (t : State) => va_P (dC, dI) vwCl [(b0, .inr (4, [.ref b1, .ref b2, .ref b3, .int u.1])), (b1, .inl (kb1, 20, .inl u.2.1)), (b2, .inl (kb2, 20, .inl u.2.2.1)), (b3, .inl (kb3, 20, .inl u.2.2.2))] t.heap ∧ va_D (va_A [(b0, .inr (4, [.ref b1, .ref b2, .ref b3, .int sm])), (b1, .inl (kb1, 20, .inl kd)), (b2, .inl (kb2, 20, .inl of)), (b3, .inl (kb3, 20, .inl cd))] sz) [(b0, .inr (4, [.ref b1, .ref b2, .ref b3, .int u.1])), (b1, .inl (kb1, 20, .inl u.2.1)), (b2, .inl (kb2, 20, .inl u.2.2.1)), (b3, .inl (kb3, 20, .inl u.2.2.2))]) (va_A [(b0, .inr (4, [.ref b1, .ref b2, .ref b3, .int sm])), (b1, .inl (kb1, 20, .inl kd)), (b2, .inl (kb2, 20, .inl of)), (b3, .inl (kb3, 20, .inl cd))] sz)) 0 0 (va_A [(b0, .inr (4, [.ref b1, .ref b2, .ref b3, .int sm])), (b1, .inl (kb1, 20, .inl kd)), (b2, .inl (kb2, 20, .inl of)), (b3, .inl (kb3, 20, .inl cd))] sz) := by
  refine Met.ofW (cc := cX3_make) (maxL := 4) (ret := (some .int)) (by decide) rfl ?_
  intro p e s m args below meth c s₁ B hml hv
  obtain ⟨rfl, hsz, hP, hK, hD0⟩ := hv
  have hx := B.exec
  have hb := B.bytes
  have hr := B.returns
  have hts := atoms_spec (ws := wsX3_make) B.pre
  have hown : s.vm.findClass RX3 = some m.cls := findClass_of_methodNamed B.named
  have hlocks := B.notSynchronized
  subst hsz
  have hD := hD0.self (sz := s.heap.size)
  generalize hAe : va_A [(b0, .inr (4, [.ref b1, .ref b2, .ref b3, .int sm])), (b1, .inl (kb1, 20, .inl kd)), (b2, .inl (kb2, 20, .inl of)), (b3, .inl (kb3, 20, .inl cd))] s.heap.size = A at hD ⊢
  have hA : ∀ q : Nat, s.heap.size ≤ q → A q := fun q h => by rw [← hAe]; exact Or.inr h
  have hS : va_S A s.heap s.heap [] := va_S.rf
  have hl := lv_entry ([.ref b0, .int kn, .int oo, .int co]) (n := 4) (Nat.le_of_ble_eq_true rfl)
  rw [lg_entry_eq]
  generalize (lg_sl ([.ref b0, .int kn, .int oo, .int co]) ++ List.replicate (4 - (lg_sl ([.ref b0, .int kn, .int oo, .int co])).length) Slot.unset).toArray = ls at hl ⊢
  have hl : lv_has ls 4 [(0, .ref b0), (1, .int kn), (2, .int oo), (3, .int co)] := hl
  refine lv_aload_n hx hb dX3_make_0 rfl (lv_at hl 0 rfl) ?_
  refine va_get (D := (dC, dI)) (ci := 4) (v := .int sm) (C := RX3) (T := TX3) (N := 4) hx hb hts (by decide +kernel) hown hK hP 0 rfl rfl 3 (by decide) (hts (.fieldLink RX3 21 "CobolDebugger$Stops" "made" "I") (by decide +kernel)) (fun _ h9 => h9) rfl dX3_make_1 ?_
  refine lv_bipush (v := 20) hx hb dX3_make_4 (by decide) ?_
  refine lv_icmp_lt (tgt := 11) hx hb dX3_make_6 (by decide) (fun c_6 => ?_) (fun c_6 => ?_)
  · have hin : vp_in sm 20 := ix_r hm0 (by rw [i_lt] at c_6; have e1 : (20 : Int32).toInt = 20 := (by decide); omega)
    refine lv_aload_n hx hb dX3_make_11 rfl (lv_at hl 0 rfl) ?_
    refine va_get (D := (dC, dI)) (ci := 4) (v := .ref b1) (C := RX3) (T := TX3) (N := 4) hx hb hts (by decide +kernel) hown hK hP 0 rfl rfl 0 (by decide) (hts (.fieldLink RX3 11 "CobolDebugger$Stops" "kinds" "[I") (by decide +kernel)) (fun _ h9 => h9) rfl dX3_make_12 ?_
    refine lv_aload_n hx hb dX3_make_15 rfl (lv_at hl 0 rfl) ?_
    refine va_get (D := (dC, dI)) (ci := 4) (v := .int sm) (C := RX3) (T := TX3) (N := 4) hx hb hts (by decide +kernel) hown hK hP 0 rfl rfl 3 (by decide) (hts (.fieldLink RX3 21 "CobolDebugger$Stops" "made" "I") (by decide +kernel)) (fun _ h9 => h9) rfl dX3_make_16 ?_
    refine lv_iload_n hx hb dX3_make_19 rfl (lv_at hl 1 rfl) ?_
    refine va_iast hx hb hK hP hD hS 1 0 rfl rfl (i := sm) hin dX3_make_20 (fun H locs hP hD hS => ?_)
    have hP : va_P (dC, dI) vwCl [(b0, .inr (4, [.ref b1, .ref b2, .ref b3, .int sm])), (b1, .inl (kb1, 20, .inl (upd kd sm.toNatClampNeg kn))), (b2, .inl (kb2, 20, .inl of)), (b3, .inl (kb3, 20, .inl cd))] H := hP
    have hD : va_D A [(b0, .inr (4, [.ref b1, .ref b2, .ref b3, .int sm])), (b1, .inl (kb1, 20, .inl (upd kd sm.toNatClampNeg kn))), (b2, .inl (kb2, 20, .inl of)), (b3, .inl (kb3, 20, .inl cd))] := hD
    obtain ⟨g_1, e_g_1⟩ : ∃ y, y = upd kd sm.toNatClampNeg kn := ⟨_, rfl⟩
    rw [← e_g_1] at hP hD
    refine lv_aload_n hx hb dX3_make_21 rfl (lv_at hl 0 rfl) ?_
    refine va_get (D := (dC, dI)) (ci := 4) (v := .ref b2) (C := RX3) (T := TX3) (N := 4) hx hb hts (by decide +kernel) hown hK hP 0 rfl rfl 1 (by decide) (hts (.fieldLink RX3 15 "CobolDebugger$Stops" "ofs" "[I") (by decide +kernel)) (fun _ h9 => h9) rfl dX3_make_22 ?_
    refine lv_aload_n hx hb dX3_make_25 rfl (lv_at hl 0 rfl) ?_
    refine va_get (D := (dC, dI)) (ci := 4) (v := .int sm) (C := RX3) (T := TX3) (N := 4) hx hb hts (by decide +kernel) hown hK hP 0 rfl rfl 3 (by decide) (hts (.fieldLink RX3 21 "CobolDebugger$Stops" "made" "I") (by decide +kernel)) (fun _ h9 => h9) rfl dX3_make_26 ?_
    refine lv_iload_n hx hb dX3_make_29 rfl (lv_at hl 2 rfl) ?_
    refine va_iast hx hb hK hP hD hS 2 1 rfl rfl (i := sm) hin dX3_make_30 (fun H locs hP hD hS => ?_)
    have hP : va_P (dC, dI) vwCl [(b0, .inr (4, [.ref b1, .ref b2, .ref b3, .int sm])), (b1, .inl (kb1, 20, .inl g_1)), (b2, .inl (kb2, 20, .inl (upd of sm.toNatClampNeg oo))), (b3, .inl (kb3, 20, .inl cd))] H := hP
    have hD : va_D A [(b0, .inr (4, [.ref b1, .ref b2, .ref b3, .int sm])), (b1, .inl (kb1, 20, .inl g_1)), (b2, .inl (kb2, 20, .inl (upd of sm.toNatClampNeg oo))), (b3, .inl (kb3, 20, .inl cd))] := hD
    obtain ⟨g_2, e_g_2⟩ : ∃ y, y = upd of sm.toNatClampNeg oo := ⟨_, rfl⟩
    rw [← e_g_2] at hP hD
    refine lv_aload_n hx hb dX3_make_31 rfl (lv_at hl 0 rfl) ?_
    refine va_get (D := (dC, dI)) (ci := 4) (v := .ref b3) (C := RX3) (T := TX3) (N := 4) hx hb hts (by decide +kernel) hown hK hP 0 rfl rfl 2 (by decide) (hts (.fieldLink RX3 18 "CobolDebugger$Stops" "conditions" "[I") (by decide +kernel)) (fun _ h9 => h9) rfl dX3_make_32 ?_
    refine lv_aload_n hx hb dX3_make_35 rfl (lv_at hl 0 rfl) ?_
    refine va_get (D := (dC, dI)) (ci := 4) (v := .int sm) (C := RX3) (T := TX3) (N := 4) hx hb hts (by decide +kernel) hown hK hP 0 rfl rfl 3 (by decide) (hts (.fieldLink RX3 21 "CobolDebugger$Stops" "made" "I") (by decide +kernel)) (fun _ h9 => h9) rfl dX3_make_36 ?_
    refine lv_iload_n hx hb dX3_make_39 rfl (lv_at hl 3 rfl) ?_
    refine va_iast hx hb hK hP hD hS 3 2 rfl rfl (i := sm) hin dX3_make_40 (fun H locs hP hD hS => ?_)
    have hP : va_P (dC, dI) vwCl [(b0, .inr (4, [.ref b1, .ref b2, .ref b3, .int sm])), (b1, .inl (kb1, 20, .inl g_1)), (b2, .inl (kb2, 20, .inl g_2)), (b3, .inl (kb3, 20, .inl (upd cd sm.toNatClampNeg co)))] H := hP
    have hD : va_D A [(b0, .inr (4, [.ref b1, .ref b2, .ref b3, .int sm])), (b1, .inl (kb1, 20, .inl g_1)), (b2, .inl (kb2, 20, .inl g_2)), (b3, .inl (kb3, 20, .inl (upd cd sm.toNatClampNeg co)))] := hD
    obtain ⟨g_3, e_g_3⟩ : ∃ y, y = upd cd sm.toNatClampNeg co := ⟨_, rfl⟩
    rw [← e_g_3] at hP hD
    refine lv_aload_n hx hb dX3_make_41 rfl (lv_at hl 0 rfl) ?_
    refine lv_dup hx hb dX3_make_42 rfl ?_
    refine va_get (D := (dC, dI)) (ci := 4) (v := .int sm) (C := RX3) (T := TX3) (N := 4) hx hb hts (by decide +kernel) hown hK hP 0 rfl rfl 3 (by decide) (hts (.fieldLink RX3 21 "CobolDebugger$Stops" "made" "I") (by decide +kernel)) (fun _ h9 => h9) rfl dX3_make_43 ?_
    refine lv_iconst (v := 1) hx hb dX3_make_46 (by decide) ?_
    refine lv_iadd hx hb dX3_make_47 ?_
    refine lv_topi (fun v_4 e_v_4 => ?_)
    refine va_put (D := (dC, dI)) (ci := 4) (v := .int v_4) (ty := .int) (C := RX3) (T := TX3) (N := 4) hx hb hts (by decide +kernel) tyX3 tyX3_ok nmX3 hown hK hP hD hS 0 rfl rfl 3 (by decide) (hts (.fieldLink RX3 21 "CobolDebugger$Stops" "made" "I") (by decide +kernel)) (fun _ h9 => h9) rfl (by decide +kernel) rfl rfl (Nat.le_of_ble_eq_true rfl) dX3_make_48 (fun H locs hP hD hS => ?_)
    have hP : va_P (dC, dI) vwCl [(b0, .inr (4, [.ref b1, .ref b2, .ref b3, .int v_4])), (b1, .inl (kb1, 20, .inl g_1)), (b2, .inl (kb2, 20, .inl g_2)), (b3, .inl (kb3, 20, .inl g_3))] H := hP
    have hD : va_D A [(b0, .inr (4, [.ref b1, .ref b2, .ref b3, .int v_4])), (b1, .inl (kb1, 20, .inl g_1)), (b2, .inl (kb2, 20, .inl g_2)), (b3, .inl (kb3, 20, .inl g_3))] := hD
    refine lv_aload_n hx hb dX3_make_51 rfl (lv_at hl 0 rfl) ?_
    refine va_get (D := (dC, dI)) (ci := 4) (v := .int v_4) (C := RX3) (T := TX3) (N := 4) hx hb hts (by decide +kernel) hown hK hP 0 rfl rfl 3 (by decide) (hts (.fieldLink RX3 21 "CobolDebugger$Stops" "made" "I") (by decide +kernel)) (fun _ h9 => h9) rfl dX3_make_52 ?_
    exact W.iret (v := v_4) hx hb hr (fun t ht hW => ⟨⟨v_4, (v_4, g_1, g_2, g_3), rfl, ⟨fun h => absurd c_6 h, fun _ => ⟨e_v_4, e_v_4, e_g_1, e_g_2, e_g_3⟩⟩, by rw [ht]; exact hP, hD⟩, hS.F ht⟩) hS.2.2 dX3_make_55
  · refine lv_iconst (v := (-1)) hx hb dX3_make_9 (by decide) ?_
    exact W.iret (v := (-1)) hx hb hr (fun t ht hW => ⟨⟨(-1), (sm, kd, of, cd), rfl, ⟨fun _ => ⟨rfl, rfl⟩, fun h => absurd h c_6⟩, by rw [ht]; exact hP, hD⟩, hS.F ht⟩) hS.2.2 dX3_make_10

set_option maxHeartbeats 4000000 in
set_option maxRecDepth 100000 in
theorem c_X4_extendParagraph (l : Launch) (dC : Nat → ClassId) (dI : Nat → Nat → Nat) (sz : Nat) (h0 h1 h2 h3 h4 h5 h6 h7 a0 b0 p0 k0 : Nat) (kh5 kh6 : ClassId) (fo lo : Nat → Int32) (sn sd ft : Int32) (pa : Int32) (hpa : vp_in pa 20) : Met l yX4_extendParagraph wsX4_extendParagraph ({ frames := 0, cells := 0, slots := 0, locals := 0 }) (va_Pc [.ref h0, .int pa] (fun U => U.heap.size = sz ∧ va_P (dC, dI) vwCl [(h0, .inr (5, [.ref h1, .ref h2, .ref h3, .ref h4, .int sn, .ref h5, .ref h6, .ref h7, .ref a0, .ref b0, .ref p0, .ref k0, .int sd, .int ft])), (h5, .inl (kh5, 20, .inl fo)), (h6, .inl (kh6, 20, .inl lo))] U.heap ∧ va_K (dC, dI) vwCl [(kh5, .int), (kh6, .int)] U ∧ va_D (fun _ => True) [(h0, .inr (5, [.ref h1, .ref h2, .ref h3, .ref h4, .int sn, .ref h5, .ref h6, .ref h7, .ref a0, .ref b0, .ref p0, .ref k0, .int sd, .int ft])), (h5, .inl (kh5, 20, .inl fo)), (h6, .inl (kh6, 20, .inl lo))])) (va_Qv (fun (u : (Nat → Int32) × (Nat → Int32)) => (∀ j, u.1 j = fo j ∨ u.1 j = sn) ∧ (∀ j, u.2 j = lo j ∨ u.2 j = sn)) (fun (u : (Nat → Int32) × (Nat → Int32)) (t : State) => va_P (dC, dI) vwCl [(h0, .inr (5, [.ref h1, .ref h2, .ref h3, .ref h4, .int sn, .ref h5, .ref h6, .ref h7, .ref a0, .ref b0, .ref p0, .ref k0, .int sd, .int ft])), (h5, .inl (kh5, 20, .inl u.1)), (h6, .inl (kh6, 20, .inl u.2))] t.heap ∧ va_D (va_A [(h0, .inr (5, [.ref h1, .ref h2, .ref h3, .ref h4, .int sn, .ref h5, .ref h6, .ref h7, .ref a0, .ref b0, .ref p0, .ref k0, .int sd, .int ft])), (h5, .inl (kh5, 20, .inl fo)), (h6, .inl (kh6, 20, .inl lo))] sz) [(h0, .inr (5, [.ref h1, .ref h2, .ref h3, .ref h4, .int sn, .ref h5, .ref h6, .ref h7, .ref a0, .ref b0, .ref p0, .ref k0, .int sd, .int ft])), (h5, .inl (kh5, 20, .inl u.1)), (h6, .inl (kh6, 20, .inl u.2))]) (va_A [(h0, .inr (5, [.ref h1, .ref h2, .ref h3, .ref h4, .int sn, .ref h5, .ref h6, .ref h7, .ref a0, .ref b0, .ref p0, .ref k0, .int sd, .int ft])), (h5, .inl (kh5, 20, .inl fo)), (h6, .inl (kh6, 20, .inl lo))] sz)) 0 0 (va_A [(h0, .inr (5, [.ref h1, .ref h2, .ref h3, .ref h4, .int sn, .ref h5, .ref h6, .ref h7, .ref a0, .ref b0, .ref p0, .ref k0, .int sd, .int ft])), (h5, .inl (kh5, 20, .inl fo)), (h6, .inl (kh6, 20, .inl lo))] sz) := by
  refine Met.ofW (cc := cX4_extendParagraph) (maxL := 2) (ret := none) (by decide) rfl ?_
  intro p e s m args below meth c s₁ B hml hv
  obtain ⟨rfl, hsz, hP, hK, hD0⟩ := hv
  have hx := B.exec
  have hb := B.bytes
  have hr := B.returns
  have hts := atoms_spec (ws := wsX4_extendParagraph) B.pre
  have hown : s.vm.findClass RX4 = some m.cls := findClass_of_methodNamed B.named
  have hlocks := B.notSynchronized
  subst hsz
  have hD := hD0.self (sz := s.heap.size)
  generalize hAe : va_A [(h0, .inr (5, [.ref h1, .ref h2, .ref h3, .ref h4, .int sn, .ref h5, .ref h6, .ref h7, .ref a0, .ref b0, .ref p0, .ref k0, .int sd, .int ft])), (h5, .inl (kh5, 20, .inl fo)), (h6, .inl (kh6, 20, .inl lo))] s.heap.size = A at hD ⊢
  have hA : ∀ q : Nat, s.heap.size ≤ q → A q := fun q h => by rw [← hAe]; exact Or.inr h
  have hS : va_S A s.heap s.heap [] := va_S.rf
  have hl := lv_entry ([.ref h0, .int pa]) (n := 2) (Nat.le_of_ble_eq_true rfl)
  rw [lg_entry_eq]
  generalize (lg_sl ([.ref h0, .int pa]) ++ List.replicate (2 - (lg_sl ([.ref h0, .int pa])).length) Slot.unset).toArray = ls at hl ⊢
  have hl : lv_has ls 2 [(0, .ref h0), (1, .int pa)] := hl
  refine lv_aload_n hx hb dX4_extendParagraph_0 rfl (lv_at hl 0 rfl) ?_
  refine va_get (D := (dC, dI)) (ci := 5) (v := .ref h5) (C := RX4) (T := TX4) (N := 14) hx hb hts (by decide +kernel) hown hK hP 0 rfl rfl 5 (by decide) (hts (.fieldLink RX4 23 "CobolDebugger" "firstOf" "[I") (by decide +kernel)) (fun _ h9 => h9) rfl dX4_extendParagraph_1 ?_
  refine lv_iload_n hx hb dX4_extendParagraph_4 rfl (lv_at hl 1 rfl) ?_
  refine va_iald hx hb hK hP 1 0 rfl rfl (i := pa) hpa dX4_extendParagraph_5 ?_
  refine lv_if_ne (tgt := 32) hx hb dX4_extendParagraph_6 (by decide) (fun c_6 => ?_) (fun c_6 => ?_)
  · refine lv_aload_n hx hb dX4_extendParagraph_32 rfl (lv_at hl 0 rfl) ?_
    refine va_get (D := (dC, dI)) (ci := 5) (v := .ref h6) (C := RX4) (T := TX4) (N := 14) hx hb hts (by decide +kernel) hown hK hP 0 rfl rfl 6 (by decide) (hts (.fieldLink RX4 26 "CobolDebugger" "lastOf" "[I") (by decide +kernel)) (fun _ h9 => h9) rfl dX4_extendParagraph_33 ?_
    refine lv_iload_n hx hb dX4_extendParagraph_36 rfl (lv_at hl 1 rfl) ?_
    refine va_iald hx hb hK hP 2 1 rfl rfl (i := pa) hpa dX4_extendParagraph_37 ?_
    refine lv_aload_n hx hb dX4_extendParagraph_38 rfl (lv_at hl 0 rfl) ?_
    refine va_get (D := (dC, dI)) (ci := 5) (v := .int sn) (C := RX4) (T := TX4) (N := 14) hx hb hts (by decide +kernel) hown hK hP 0 rfl rfl 4 (by decide) (hts (.fieldLink RX4 64 "CobolDebugger" "statements" "I") (by decide +kernel)) (fun _ h9 => h9) rfl dX4_extendParagraph_39 ?_
    refine lv_iconst (v := 1) hx hb dX4_extendParagraph_42 (by decide) ?_
    refine lv_isub hx hb dX4_extendParagraph_43 ?_
    refine lv_icmp_ne (tgt := 57) hx hb dX4_extendParagraph_44 (by decide) (fun c_44 => ?_) (fun c_44 => ?_)
    · exact W.vret hx hb hr (fun t ht hW => ⟨⟨(fo, lo), rfl, ⟨fun j => Or.inl rfl, fun j => Or.inl rfl⟩, by rw [ht]; exact hP, hD⟩, hS.F ht⟩) hS.2.2 dX4_extendParagraph_57
    · refine lv_aload_n hx hb dX4_extendParagraph_47 rfl (lv_at hl 0 rfl) ?_
      refine va_get (D := (dC, dI)) (ci := 5) (v := .ref h6) (C := RX4) (T := TX4) (N := 14) hx hb hts (by decide +kernel) hown hK hP 0 rfl rfl 6 (by decide) (hts (.fieldLink RX4 26 "CobolDebugger" "lastOf" "[I") (by decide +kernel)) (fun _ h9 => h9) rfl dX4_extendParagraph_48 ?_
      refine lv_iload_n hx hb dX4_extendParagraph_51 rfl (lv_at hl 1 rfl) ?_
      refine lv_aload_n hx hb dX4_extendParagraph_52 rfl (lv_at hl 0 rfl) ?_
      refine va_get (D := (dC, dI)) (ci := 5) (v := .int sn) (C := RX4) (T := TX4) (N := 14) hx hb hts (by decide +kernel) hown hK hP 0 rfl rfl 4 (by decide) (hts (.fieldLink RX4 64 "CobolDebugger" "statements" "I") (by decide +kernel)) (fun _ h9 => h9) rfl dX4_extendParagraph_53 ?_
      refine va_iast hx hb hK hP hD hS 2 1 rfl rfl (i := pa) hpa dX4_extendParagraph_56 (fun H locs hP hD hS => ?_)
      have hP : va_P (dC, dI) vwCl [(h0, .inr (5, [.ref h1, .ref h2, .ref h3, .ref h4, .int sn, .ref h5, .ref h6, .ref h7, .ref a0, .ref b0, .ref p0, .ref k0, .int sd, .int ft])), (h5, .inl (kh5, 20, .inl fo)), (h6, .inl (kh6, 20, .inl (upd lo pa.toNatClampNeg sn)))] H := hP
      have hD : va_D A [(h0, .inr (5, [.ref h1, .ref h2, .ref h3, .ref h4, .int sn, .ref h5, .ref h6, .ref h7, .ref a0, .ref b0, .ref p0, .ref k0, .int sd, .int ft])), (h5, .inl (kh5, 20, .inl fo)), (h6, .inl (kh6, 20, .inl (upd lo pa.toNatClampNeg sn)))] := hD
      obtain ⟨g_1, e_g_1⟩ : ∃ y, y = upd lo pa.toNatClampNeg sn := ⟨_, rfl⟩
      rw [← e_g_1] at hP hD
      exact W.vret hx hb hr (fun t ht hW => ⟨⟨(fo, g_1), rfl, ⟨fun j => Or.inl rfl, fun j => by rw [e_g_1]; exact up_or _ _ _ j⟩, by rw [ht]; exact hP, hD⟩, hS.F ht⟩) hS.2.2 dX4_extendParagraph_57
  · refine lv_aload_n hx hb dX4_extendParagraph_9 rfl (lv_at hl 0 rfl) ?_
    refine va_get (D := (dC, dI)) (ci := 5) (v := .ref h5) (C := RX4) (T := TX4) (N := 14) hx hb hts (by decide +kernel) hown hK hP 0 rfl rfl 5 (by decide) (hts (.fieldLink RX4 23 "CobolDebugger" "firstOf" "[I") (by decide +kernel)) (fun _ h9 => h9) rfl dX4_extendParagraph_10 ?_
    refine lv_iload_n hx hb dX4_extendParagraph_13 rfl (lv_at hl 1 rfl) ?_
    refine lv_aload_n hx hb dX4_extendParagraph_14 rfl (lv_at hl 0 rfl) ?_
    refine va_get (D := (dC, dI)) (ci := 5) (v := .int sn) (C := RX4) (T := TX4) (N := 14) hx hb hts (by decide +kernel) hown hK hP 0 rfl rfl 4 (by decide) (hts (.fieldLink RX4 64 "CobolDebugger" "statements" "I") (by decide +kernel)) (fun _ h9 => h9) rfl dX4_extendParagraph_15 ?_
    refine va_iast hx hb hK hP hD hS 1 0 rfl rfl (i := pa) hpa dX4_extendParagraph_18 (fun H locs hP hD hS => ?_)
    have hP : va_P (dC, dI) vwCl [(h0, .inr (5, [.ref h1, .ref h2, .ref h3, .ref h4, .int sn, .ref h5, .ref h6, .ref h7, .ref a0, .ref b0, .ref p0, .ref k0, .int sd, .int ft])), (h5, .inl (kh5, 20, .inl (upd fo pa.toNatClampNeg sn))), (h6, .inl (kh6, 20, .inl lo))] H := hP
    have hD : va_D A [(h0, .inr (5, [.ref h1, .ref h2, .ref h3, .ref h4, .int sn, .ref h5, .ref h6, .ref h7, .ref a0, .ref b0, .ref p0, .ref k0, .int sd, .int ft])), (h5, .inl (kh5, 20, .inl (upd fo pa.toNatClampNeg sn))), (h6, .inl (kh6, 20, .inl lo))] := hD
    obtain ⟨g_2, e_g_2⟩ : ∃ y, y = upd fo pa.toNatClampNeg sn := ⟨_, rfl⟩
    rw [← e_g_2] at hP hD
    refine lv_aload_n hx hb dX4_extendParagraph_19 rfl (lv_at hl 0 rfl) ?_
    refine va_get (D := (dC, dI)) (ci := 5) (v := .ref h6) (C := RX4) (T := TX4) (N := 14) hx hb hts (by decide +kernel) hown hK hP 0 rfl rfl 6 (by decide) (hts (.fieldLink RX4 26 "CobolDebugger" "lastOf" "[I") (by decide +kernel)) (fun _ h9 => h9) rfl dX4_extendParagraph_20 ?_
    refine lv_iload_n hx hb dX4_extendParagraph_23 rfl (lv_at hl 1 rfl) ?_
    refine lv_aload_n hx hb dX4_extendParagraph_24 rfl (lv_at hl 0 rfl) ?_
    refine va_get (D := (dC, dI)) (ci := 5) (v := .int sn) (C := RX4) (T := TX4) (N := 14) hx hb hts (by decide +kernel) hown hK hP 0 rfl rfl 4 (by decide) (hts (.fieldLink RX4 64 "CobolDebugger" "statements" "I") (by decide +kernel)) (fun _ h9 => h9) rfl dX4_extendParagraph_25 ?_
    refine va_iast hx hb hK hP hD hS 2 1 rfl rfl (i := pa) hpa dX4_extendParagraph_28 (fun H locs hP hD hS => ?_)
    have hP : va_P (dC, dI) vwCl [(h0, .inr (5, [.ref h1, .ref h2, .ref h3, .ref h4, .int sn, .ref h5, .ref h6, .ref h7, .ref a0, .ref b0, .ref p0, .ref k0, .int sd, .int ft])), (h5, .inl (kh5, 20, .inl g_2)), (h6, .inl (kh6, 20, .inl (upd lo pa.toNatClampNeg sn)))] H := hP
    have hD : va_D A [(h0, .inr (5, [.ref h1, .ref h2, .ref h3, .ref h4, .int sn, .ref h5, .ref h6, .ref h7, .ref a0, .ref b0, .ref p0, .ref k0, .int sd, .int ft])), (h5, .inl (kh5, 20, .inl g_2)), (h6, .inl (kh6, 20, .inl (upd lo pa.toNatClampNeg sn)))] := hD
    obtain ⟨g_3, e_g_3⟩ : ∃ y, y = upd lo pa.toNatClampNeg sn := ⟨_, rfl⟩
    rw [← e_g_3] at hP hD
    refine lv_goto (tgt := 57) hx hb dX4_extendParagraph_29 (by decide) ?_
    exact W.vret hx hb hr (fun t ht hW => ⟨⟨(g_2, g_3), rfl, ⟨fun j => by rw [e_g_2]; exact up_or _ _ _ j, fun j => by rw [e_g_3]; exact up_or _ _ _ j⟩, by rw [ht]; exact hP, hD⟩, hS.F ht⟩) hS.2.2 dX4_extendParagraph_57

set_option maxHeartbeats 4000000 in
set_option maxRecDepth 100000 in
theorem c_X4_statement (l : Launch) (dC : Nat → ClassId) (dI : Nat → Nat → Nat) (sz : Nat) (h0 h1 h2 h3 h4 h5 h6 h7 a0 b0 p0 k0 : Nat) (kh1 kh2 kh3 kh5 kh6 : ClassId) (pg ln ds fo lo : Nat → Int32) (sn sd ft : Int32) (pa : Int32) (li : Int32) (hs0 : 0 ≤ sn.toInt) : Met l yX4_statement wsX4_statement ({ frames := 1, cells := 0, slots := 0, locals := 21 }) (va_Pc [.ref h0, .int pa, .int li] (fun U => U.heap.size = sz ∧ va_P (dC, dI) vwCl [(h0, .inr (5, [.ref h1, .ref h2, .ref h3, .ref h4, .int sn, .ref h5, .ref h6, .ref h7, .ref a0, .ref b0, .ref p0, .ref k0, .int sd, .int ft])), (h1, .inl (kh1, 101, .inl pg)), (h2, .inl (kh2, 101, .inl ln)), (h3, .inl (kh3, 101, .inl ds)), (h5, .inl (kh5, 20, .inl fo)), (h6, .inl (kh6, 20, .inl lo))] U.heap ∧ va_K (dC, dI) vwCl [(kh1, .int), (kh2, .int), (kh3, .int), (kh5, .int), (kh6, .int)] U ∧ va_D (fun _ => True) [(h0, .inr (5, [.ref h1, .ref h2, .ref h3, .ref h4, .int sn, .ref h5, .ref h6, .ref h7, .ref a0, .ref b0, .ref p0, .ref k0, .int sd, .int ft])), (h1, .inl (kh1, 101, .inl pg)), (h2, .inl (kh2, 101, .inl ln)), (h3, .inl (kh3, 101, .inl ds)), (h5, .inl (kh5, 20, .inl fo)), (h6, .inl (kh6, 20, .inl lo))])) (va_Qi (fun (r : Int32) (u : Unit) => r = stmtA sn pa li) (fun (u : Unit) (t : State) => True) (va_A [(h0, .inr (5, [.ref h1, .ref h2, .ref h3, .ref h4, .int sn, .ref h5, .ref h6, .ref h7, .ref a0, .ref b0, .ref p0, .ref k0, .int sd, .int ft])), (h1, .inl (kh1, 101, .inl pg)), (h2, .inl (kh2, 101, .inl ln)), (h3, .inl (kh3, 101, .inl ds)), (h5, .inl (kh5, 20, .inl fo)), (h6, .inl (kh6, 20, .inl lo))] sz)) 0 0 (va_A [(h0, .inr (5, [.ref h1, .ref h2, .ref h3, .ref h4, .int sn, .ref h5, .ref h6, .ref h7, .ref a0, .ref b0, .ref p0, .ref k0, .int sd, .int ft])), (h1, .inl (kh1, 101, .inl pg)), (h2, .inl (kh2, 101, .inl ln)), (h3, .inl (kh3, 101, .inl ds)), (h5, .inl (kh5, 20, .inl fo)), (h6, .inl (kh6, 20, .inl lo))] sz) := by
  refine Met.ofW (cc := cX4_statement) (maxL := 3) (ret := (some .int)) (by decide) rfl ?_
  intro p e s m args below meth c s₁ B hml hv
  obtain ⟨rfl, hsz, hP, hK, hD0⟩ := hv
  have hx := B.exec
  have hb := B.bytes
  have hr := B.returns
  have hts := atoms_spec (ws := wsX4_statement) B.pre
  have hown : s.vm.findClass RX4 = some m.cls := findClass_of_methodNamed B.named
  have hlocks := B.notSynchronized
  subst hsz
  have hD := hD0.self (sz := s.heap.size)
  generalize hAe : va_A [(h0, .inr (5, [.ref h1, .ref h2, .ref h3, .ref h4, .int sn, .ref h5, .ref h6, .ref h7, .ref a0, .ref b0, .ref p0, .ref k0, .int sd, .int ft])), (h1, .inl (kh1, 101, .inl pg)), (h2, .inl (kh2, 101, .inl ln)), (h3, .inl (kh3, 101, .inl ds)), (h5, .inl (kh5, 20, .inl fo)), (h6, .inl (kh6, 20, .inl lo))] s.heap.size = A at hD ⊢
  have hA : ∀ q : Nat, s.heap.size ≤ q → A q := fun q h => by rw [← hAe]; exact Or.inr h
  have hS : va_S A s.heap s.heap [] := va_S.rf
  have hl := lv_entry ([.ref h0, .int pa, .int li]) (n := 3) (Nat.le_of_ble_eq_true rfl)
  rw [lg_entry_eq]
  generalize (lg_sl ([.ref h0, .int pa, .int li]) ++ List.replicate (3 - (lg_sl ([.ref h0, .int pa, .int li])).length) Slot.unset).toArray = ls at hl ⊢
  have hl : lv_has ls 3 [(0, .ref h0), (1, .int pa), (2, .int li)] := hl
  refine lv_iload_n hx hb dX4_statement_0 rfl (lv_at hl 1 rfl) ?_
  have hPc := hP.sub (ws' := []) [] rfl
  have hKc := hK.sub (tys' := []) [] rfl
  refine va_calli (va_runS (As := [.int pa]) (rest := []) ⟨hx, hb, hml, hown, hts⟩ (c_X4_isParagraph l dC dI pa) (va_cwS 1 hts gX4_statement_X4_isParagraph rfl rfl rfl (by decide +kernel) ⟨Nat.le_of_ble_eq_true rfl, Nat.le_of_ble_eq_true rfl⟩) ⟨fun a U g mk q => by obtain ⟨q0, qP, qK⟩ := q; exact ⟨q0, qP, va_K.moved (u := U) (U := U.calling g mk a) (Vm.Alike.refl U.vm) qK⟩, fun U hU hW => ⟨rfl, by rw [hU]; exact hPc, va_K.moved hW.alike hKc⟩⟩ rfl rfl hl.1 rfl (lv_room (Nat.le_of_ble_eq_true rfl)) dX4_statement_1 ⟨Nat.zero_le _, Nat.zero_le _⟩) hS (fun q _ h => h.elim) (fun q h => h.elim) (fun r_1 u t H1 locs ht hvm w_1 hB hz1 hk1 hS => ?_)
  try dsimp only at w_1
  have hP := rd_keep hP hk1
  clear hB hk1 hz1 ht hvm u t
  generalize H1 = H at hP hS ⊢
  have w_1 := z01 w_1
  refine lv_if_eq (tgt := 19) hx hb dX4_statement_4 (by decide) (fun c_4 => ?_) (fun c_4 => ?_)
  · refine lv_bipush (v := (-4)) hx hb dX4_statement_19 (by decide) ?_
    exact W.iret (v := (-4)) hx hb hr (fun t ht hW => ⟨⟨(-4), (), rfl, by unfold stmtA; rw [if_pos (((w_1.mp c_4)).elim Or.inl (fun h => Or.inr (Or.inl (i_19.mp h))))], trivial⟩, hS.F ht⟩) hS.2.2 dX4_statement_21
  · refine lv_iload_n hx hb dX4_statement_7 rfl (lv_at hl 2 rfl) ?_
    refine lv_iconst (v := 1) hx hb dX4_statement_8 (by decide) ?_
    refine lv_icmp_lt (tgt := 19) hx hb dX4_statement_9 (by decide) (fun c_9 => ?_) (fun c_9 => ?_)
    · refine lv_bipush (v := (-4)) hx hb dX4_statement_19 (by decide) ?_
      exact W.iret (v := (-4)) hx hb hr (fun t ht hW => ⟨⟨(-4), (), rfl, by unfold stmtA; rw [if_pos (Or.inr (Or.inr (Or.inl c_9)))], trivial⟩, hS.F ht⟩) hS.2.2 dX4_statement_21
    · refine lv_iload_n hx hb dX4_statement_12 rfl (lv_at hl 2 rfl) ?_
      refine lv_sipush (v := 9999) hx hb dX4_statement_13 (by decide) ?_
      refine lv_icmp_le (tgt := 22) hx hb dX4_statement_16 (by decide) (fun c_16 => ?_) (fun c_16 => ?_)
      · have hpa : vp_in pa 20 := ix_k 20 (by decide) (fun h => c_4 (w_1.mpr (Or.inl h))) (fun h => c_4 (w_1.mpr (Or.inr h)))
        have hbd : ¬ (pa < 0 ∨ 19 < pa ∨ li < 1 ∨ 9999 < li) := by rintro (h | h | h | h); exact c_4 (w_1.mpr (Or.inl h)); exact c_4 (w_1.mpr (Or.inr (i_19.mpr h))); exact c_9 h; exact (Int32.not_lt.mpr c_16) h
        refine lv_aload_n hx hb dX4_statement_22 rfl (lv_at hl 0 rfl) ?_
        refine va_get (D := (dC, dI)) (ci := 5) (v := .int sn) (C := RX4) (T := TX4) (N := 14) hx hb hts (by decide +kernel) hown hK hP 0 rfl rfl 4 (by decide) (hts (.fieldLink RX4 64 "CobolDebugger" "statements" "I") (by decide +kernel)) (fun _ h9 => h9) rfl dX4_statement_23 ?_
        refine lv_bipush (v := 100) hx hb dX4_statement_26 (by decide) ?_
        refine lv_icmp_lt (tgt := 33) hx hb dX4_statement_28 (by decide) (fun c_28 => ?_) (fun c_28 => ?_)
        · refine lv_aload_n hx hb dX4_statement_33 rfl (lv_at hl 0 rfl) ?_
          refine lv_dup hx hb dX4_statement_34 rfl ?_
          refine va_get (D := (dC, dI)) (ci := 5) (v := .int sn) (C := RX4) (T := TX4) (N := 14) hx hb hts (by decide +kernel) hown hK hP 0 rfl rfl 4 (by decide) (hts (.fieldLink RX4 64 "CobolDebugger" "statements" "I") (by decide +kernel)) (fun _ h9 => h9) rfl dX4_statement_35 ?_
          refine lv_iconst (v := 1) hx hb dX4_statement_38 (by decide) ?_
          refine lv_iadd hx hb dX4_statement_39 ?_
          refine lv_topi (fun v_1 e_v_1 => ?_)
          refine va_put (D := (dC, dI)) (ci := 5) (v := .int v_1) (ty := .int) (C := RX4) (T := TX4) (N := 14) hx hb hts (by decide +kernel) tyX4 tyX4_ok nmX4 hown hK hP hD hS 0 rfl rfl 4 (by decide) (hts (.fieldLink RX4 64 "CobolDebugger" "statements" "I") (by decide +kernel)) (fun _ h9 => h9) rfl (by decide +kernel) rfl rfl (Nat.le_of_ble_eq_true rfl) dX4_statement_40 (fun H locs hP hD hS => ?_)
          have hP : va_P (dC, dI) vwCl [(h0, .inr (5, [.ref h1, .ref h2, .ref h3, .ref h4, .int v_1, .ref h5, .ref h6, .ref h7, .ref a0, .ref b0, .ref p0, .ref k0, .int sd, .int ft])), (h1, .inl (kh1, 101, .inl pg)), (h2, .inl (kh2, 101, .inl ln)), (h3, .inl (kh3, 101, .inl ds)), (h5, .inl (kh5, 20, .inl fo)), (h6, .inl (kh6, 20, .inl lo))] H := hP
          have hD : va_D A [(h0, .inr (5, [.ref h1, .ref h2, .ref h3, .ref h4, .int v_1, .ref h5, .ref h6, .ref h7, .ref a0, .ref b0, .ref p0, .ref k0, .int sd, .int ft])), (h1, .inl (kh1, 101, .inl pg)), (h2, .inl (kh2, 101, .inl ln)), (h3, .inl (kh3, 101, .inl ds)), (h5, .inl (kh5, 20, .inl fo)), (h6, .inl (kh6, 20, .inl lo))] := hD
          have hsn : vp_in v_1 101 := by rw [e_v_1]; exact ix_n1 100 hs0 c_28 (by decide) (by decide)
          refine lv_aload_n hx hb dX4_statement_43 rfl (lv_at hl 0 rfl) ?_
          refine va_get (D := (dC, dI)) (ci := 5) (v := .ref h1) (C := RX4) (T := TX4) (N := 14) hx hb hts (by decide +kernel) hown hK hP 0 rfl rfl 0 (by decide) (hts (.fieldLink RX4 9 "CobolDebugger" "paragraphOf" "[I") (by decide +kernel)) (fun _ h9 => h9) rfl dX4_statement_44 ?_
          refine lv_aload_n hx hb dX4_statement_47 rfl (lv_at hl 0 rfl) ?_
          refine va_get (D := (dC, dI)) (ci := 5) (v := .int v_1) (C := RX4) (T := TX4) (N := 14) hx hb hts (by decide +kernel) hown hK hP 0 rfl rfl 4 (by decide) (hts (.fieldLink RX4 64 "CobolDebugger" "statements" "I") (by decide +kernel)) (fun _ h9 => h9) rfl dX4_statement_48 ?_
          refine lv_iload_n hx hb dX4_statement_51 rfl (lv_at hl 1 rfl) ?_
          refine va_iast hx hb hK hP hD hS 1 0 rfl rfl (i := v_1) hsn dX4_statement_52 (fun H locs hP hD hS => ?_)
          have hP : va_P (dC, dI) vwCl [(h0, .inr (5, [.ref h1, .ref h2, .ref h3, .ref h4, .int v_1, .ref h5, .ref h6, .ref h7, .ref a0, .ref b0, .ref p0, .ref k0, .int sd, .int ft])), (h1, .inl (kh1, 101, .inl (upd pg v_1.toNatClampNeg pa))), (h2, .inl (kh2, 101, .inl ln)), (h3, .inl (kh3, 101, .inl ds)), (h5, .inl (kh5, 20, .inl fo)), (h6, .inl (kh6, 20, .inl lo))] H := hP
          have hD : va_D A [(h0, .inr (5, [.ref h1, .ref h2, .ref h3, .ref h4, .int v_1, .ref h5, .ref h6, .ref h7, .ref a0, .ref b0, .ref p0, .ref k0, .int sd, .int ft])), (h1, .inl (kh1, 101, .inl (upd pg v_1.toNatClampNeg pa))), (h2, .inl (kh2, 101, .inl ln)), (h3, .inl (kh3, 101, .inl ds)), (h5, .inl (kh5, 20, .inl fo)), (h6, .inl (kh6, 20, .inl lo))] := hD
          obtain ⟨g_2, e_g_2⟩ : ∃ y, y = upd pg v_1.toNatClampNeg pa := ⟨_, rfl⟩
          rw [← e_g_2] at hP hD
          refine lv_aload_n hx hb dX4_statement_53 rfl (lv_at hl 0 rfl) ?_
          refine va_get (D := (dC, dI)) (ci := 5) (v := .ref h2) (C := RX4) (T := TX4) (N := 14) hx hb hts (by decide +kernel) hown hK hP 0 rfl rfl 1 (by decide) (hts (.fieldLink RX4 13 "CobolDebugger" "lineOf" "[I") (by decide +kernel)) (fun _ h9 => h9) rfl dX4_statement_54 ?_
          refine lv_aload_n hx hb dX4_statement_57 rfl (lv_at hl 0 rfl) ?_
          refine va_get (D := (dC, dI)) (ci := 5) (v := .int v_1) (C := RX4) (T := TX4) (N := 14) hx hb hts (by decide +kernel) hown hK hP 0 rfl rfl 4 (by decide) (hts (.fieldLink RX4 64 "CobolDebugger" "statements" "I") (by decide +kernel)) (fun _ h9 => h9) rfl dX4_statement_58 ?_
          refine lv_iload_n hx hb dX4_statement_61 rfl (lv_at hl 2 rfl) ?_
          refine va_iast hx hb hK hP hD hS 2 1 rfl rfl (i := v_1) hsn dX4_statement_62 (fun H locs hP hD hS => ?_)
          have hP : va_P (dC, dI) vwCl [(h0, .inr (5, [.ref h1, .ref h2, .ref h3, .ref h4, .int v_1, .ref h5, .ref h6, .ref h7, .ref a0, .ref b0, .ref p0, .ref k0, .int sd, .int ft])), (h1, .inl (kh1, 101, .inl g_2)), (h2, .inl (kh2, 101, .inl (upd ln v_1.toNatClampNeg li))), (h3, .inl (kh3, 101, .inl ds)), (h5, .inl (kh5, 20, .inl fo)), (h6, .inl (kh6, 20, .inl lo))] H := hP
          have hD : va_D A [(h0, .inr (5, [.ref h1, .ref h2, .ref h3, .ref h4, .int v_1, .ref h5, .ref h6, .ref h7, .ref a0, .ref b0, .ref p0, .ref k0, .int sd, .int ft])), (h1, .inl (kh1, 101, .inl g_2)), (h2, .inl (kh2, 101, .inl (upd ln v_1.toNatClampNeg li))), (h3, .inl (kh3, 101, .inl ds)), (h5, .inl (kh5, 20, .inl fo)), (h6, .inl (kh6, 20, .inl lo))] := hD
          obtain ⟨g_3, e_g_3⟩ : ∃ y, y = upd ln v_1.toNatClampNeg li := ⟨_, rfl⟩
          rw [← e_g_3] at hP hD
          refine lv_aload_n hx hb dX4_statement_63 rfl (lv_at hl 0 rfl) ?_
          refine va_get (D := (dC, dI)) (ci := 5) (v := .ref h3) (C := RX4) (T := TX4) (N := 14) hx hb hts (by decide +kernel) hown hK hP 0 rfl rfl 2 (by decide) (hts (.fieldLink RX4 16 "CobolDebugger" "does" "[I") (by decide +kernel)) (fun _ h9 => h9) rfl dX4_statement_64 ?_
          refine lv_aload_n hx hb dX4_statement_67 rfl (lv_at hl 0 rfl) ?_
          refine va_get (D := (dC, dI)) (ci := 5) (v := .int v_1) (C := RX4) (T := TX4) (N := 14) hx hb hts (by decide +kernel) hown hK hP 0 rfl rfl 4 (by decide) (hts (.fieldLink RX4 64 "CobolDebugger" "statements" "I") (by decide +kernel)) (fun _ h9 => h9) rfl dX4_statement_68 ?_
          refine lv_iconst (v := (-1)) hx hb dX4_statement_71 (by decide) ?_
          refine va_iast hx hb hK hP hD hS 3 2 rfl rfl (i := v_1) hsn dX4_statement_72 (fun H locs hP hD hS => ?_)
          have hP : va_P (dC, dI) vwCl [(h0, .inr (5, [.ref h1, .ref h2, .ref h3, .ref h4, .int v_1, .ref h5, .ref h6, .ref h7, .ref a0, .ref b0, .ref p0, .ref k0, .int sd, .int ft])), (h1, .inl (kh1, 101, .inl g_2)), (h2, .inl (kh2, 101, .inl g_3)), (h3, .inl (kh3, 101, .inl (upd ds v_1.toNatClampNeg (-1)))), (h5, .inl (kh5, 20, .inl fo)), (h6, .inl (kh6, 20, .inl lo))] H := hP
          have hD : va_D A [(h0, .inr (5, [.ref h1, .ref h2, .ref h3, .ref h4, .int v_1, .ref h5, .ref h6, .ref h7, .ref a0, .ref b0, .ref p0, .ref k0, .int sd, .int ft])), (h1, .inl (kh1, 101, .inl g_2)), (h2, .inl (kh2, 101, .inl g_3)), (h3, .inl (kh3, 101, .inl (upd ds v_1.toNatClampNeg (-1)))), (h5, .inl (kh5, 20, .inl fo)), (h6, .inl (kh6, 20, .inl lo))] := hD
          obtain ⟨g_4, e_g_4⟩ : ∃ y, y = upd ds v_1.toNatClampNeg (-1) := ⟨_, rfl⟩
          rw [← e_g_4] at hP hD
          refine lv_aload_n hx hb dX4_statement_73 rfl (lv_at hl 0 rfl) ?_
          refine lv_iload_n hx hb dX4_statement_74 rfl (lv_at hl 1 rfl) ?_
          have hPc := hP.sub (ws' := [(h0, .inr (5, [.ref h1, .ref h2, .ref h3, .ref h4, .int v_1, .ref h5, .ref h6, .ref h7, .ref a0, .ref b0, .ref p0, .ref k0, .int sd, .int ft])), (h5, .inl (kh5, 20, .inl fo)), (h6, .inl (kh6, 20, .inl lo))]) [0, 4, 5] rfl
          have hKc := hK.sub (tys' := [(kh5, .int), (kh6, .int)]) [3, 4] rfl
          have hDc := hD.sub (ws' := [(h0, .inr (5, [.ref h1, .ref h2, .ref h3, .ref h4, .int v_1, .ref h5, .ref h6, .ref h7, .ref a0, .ref b0, .ref p0, .ref k0, .int sd, .int ft])), (h5, .inl (kh5, 20, .inl fo)), (h6, .inl (kh6, 20, .inl lo))]) [0, 4, 5] (by decide) rfl
          have hFc := va_free (wc := [(h0, .inr (5, [.ref h1, .ref h2, .ref h3, .ref h4, .int v_1, .ref h5, .ref h6, .ref h7, .ref a0, .ref b0, .ref p0, .ref k0, .int sd, .int ft])), (h5, .inl (kh5, 20, .inl fo)), (h6, .inl (kh6, 20, .inl lo))]) hD hS hA [0, 4, 5] rfl
          refine va_callv (va_runV (As := [.int pa]) (rest := []) ⟨hx, hb, hml, hown, hts⟩ (c_X4_extendParagraph l dC dI H.size h0 h1 h2 h3 h4 h5 h6 h7 a0 b0 p0 k0 kh5 kh6 fo lo v_1 sd ft pa (hpa)) (cwV 1 hts gX4_statement_X4_extendParagraph rfl rfl rfl (by decide +kernel) ⟨Nat.le_of_ble_eq_true rfl, Nat.le_of_ble_eq_true rfl⟩) ⟨fun a U g mk q => by obtain ⟨q0, q1, qP, qK, qD⟩ := q; exact ⟨q0, q1, qP, va_K.moved (u := U) (U := U.calling g mk a) (Vm.Alike.refl U.vm) qK, qD⟩, va_recv hKc hPc (ci := 5) (q0 := 0) rfl rfl, fun U hU hW => ⟨rfl, by rw [hU], by rw [hU]; exact hPc, va_K.moved hW.alike hKc, hDc.weaken (fun _ _ _ _ => trivial)⟩⟩ rfl rfl hl.1 rfl (lv_room (Nat.le_of_ble_eq_true rfl)) dX4_statement_75 ⟨Nat.zero_le _, Nat.zero_le _⟩) hS (fun q _ h => hFc q h) (fun q h => hFc q h) (fun u t H1 locs ht hvm w_75 hB hz1 hk1 hS => ?_)
          try dsimp only at w_75
          obtain ⟨fo_75, lo_75⟩ := u
          obtain ⟨hP1, hD1⟩ := hB
          rw [ht] at hP1
          obtain ⟨hP, hD⟩ := va_join (wr := [(h1, .inl (kh1, 101, .inl g_2)), (h2, .inl (kh2, 101, .inl g_3)), (h3, .inl (kh3, 101, .inl g_4))]) (w1 := [(h0, .inr (5, [.ref h1, .ref h2, .ref h3, .ref h4, .int v_1, .ref h5, .ref h6, .ref h7, .ref a0, .ref b0, .ref p0, .ref k0, .int sd, .int ft])), (h5, .inl (kh5, 20, .inl fo_75)), (h6, .inl (kh6, 20, .inl lo_75))]) hP hD [0, 4, 5] [1, 2, 3] rfl rfl (by decide) (by decide) hk1 hFc hP1 hD1
          generalize H1 = H at hP hS ⊢
          have hP := hP.sub (ws' := [(h0, .inr (5, [.ref h1, .ref h2, .ref h3, .ref h4, .int v_1, .ref h5, .ref h6, .ref h7, .ref a0, .ref b0, .ref p0, .ref k0, .int sd, .int ft])), (h1, .inl (kh1, 101, .inl g_2)), (h2, .inl (kh2, 101, .inl g_3)), (h3, .inl (kh3, 101, .inl g_4)), (h5, .inl (kh5, 20, .inl fo_75)), (h6, .inl (kh6, 20, .inl lo_75))]) [3, 0, 1, 2, 4, 5] rfl
          have hD := hD.sub (ws' := [(h0, .inr (5, [.ref h1, .ref h2, .ref h3, .ref h4, .int v_1, .ref h5, .ref h6, .ref h7, .ref a0, .ref b0, .ref p0, .ref k0, .int sd, .int ft])), (h1, .inl (kh1, 101, .inl g_2)), (h2, .inl (kh2, 101, .inl g_3)), (h3, .inl (kh3, 101, .inl g_4)), (h5, .inl (kh5, 20, .inl fo_75)), (h6, .inl (kh6, 20, .inl lo_75))]) [3, 0, 1, 2, 4, 5] (by decide) rfl
          refine lv_aload_n hx hb dX4_statement_78 rfl (lv_at hl 0 rfl) ?_
          refine va_get (D := (dC, dI)) (ci := 5) (v := .int v_1) (C := RX4) (T := TX4) (N := 14) hx hb hts (by decide +kernel) hown hK hP 0 rfl rfl 4 (by decide) (hts (.fieldLink RX4 64 "CobolDebugger" "statements" "I") (by decide +kernel)) (fun _ h9 => h9) rfl dX4_statement_79 ?_
          refine lv_iconst (v := 1) hx hb dX4_statement_82 (by decide) ?_
          refine lv_icmp_ne (tgt := 91) hx hb dX4_statement_83 (by decide) (fun c_83 => ?_) (fun c_83 => ?_)
          · refine lv_aload_n hx hb dX4_statement_91 rfl (lv_at hl 0 rfl) ?_
            refine va_get (D := (dC, dI)) (ci := 5) (v := .int v_1) (C := RX4) (T := TX4) (N := 14) hx hb hts (by decide +kernel) hown hK hP 0 rfl rfl 4 (by decide) (hts (.fieldLink RX4 64 "CobolDebugger" "statements" "I") (by decide +kernel)) (fun _ h9 => h9) rfl dX4_statement_92 ?_
            exact W.iret (v := v_1) hx hb hr (fun t ht hW => ⟨⟨v_1, (), rfl, by unfold stmtA; rw [if_neg hbd, if_pos c_28]; exact e_v_1, trivial⟩, hS.F ht⟩) hS.2.2 dX4_statement_95
          · refine lv_aload_n hx hb dX4_statement_86 rfl (lv_at hl 0 rfl) ?_
            refine lv_iconst (v := 1) hx hb dX4_statement_87 (by decide) ?_
            refine va_put (D := (dC, dI)) (ci := 5) (v := .int 1) (ty := .int) (C := RX4) (T := TX4) (N := 14) hx hb hts (by decide +kernel) tyX4 tyX4_ok nmX4 hown hK hP hD hS 0 rfl rfl 12 (by decide) (hts (.fieldLink RX4 72 "CobolDebugger" "stand" "I") (by decide +kernel)) (fun _ h9 => h9) rfl (by decide +kernel) rfl rfl (Nat.le_of_ble_eq_true rfl) dX4_statement_88 (fun H locs hP hD hS => ?_)
            have hP : va_P (dC, dI) vwCl [(h0, .inr (5, [.ref h1, .ref h2, .ref h3, .ref h4, .int v_1, .ref h5, .ref h6, .ref h7, .ref a0, .ref b0, .ref p0, .ref k0, .int 1, .int ft])), (h1, .inl (kh1, 101, .inl g_2)), (h2, .inl (kh2, 101, .inl g_3)), (h3, .inl (kh3, 101, .inl g_4)), (h5, .inl (kh5, 20, .inl fo_75)), (h6, .inl (kh6, 20, .inl lo_75))] H := hP
            have hD : va_D A [(h0, .inr (5, [.ref h1, .ref h2, .ref h3, .ref h4, .int v_1, .ref h5, .ref h6, .ref h7, .ref a0, .ref b0, .ref p0, .ref k0, .int 1, .int ft])), (h1, .inl (kh1, 101, .inl g_2)), (h2, .inl (kh2, 101, .inl g_3)), (h3, .inl (kh3, 101, .inl g_4)), (h5, .inl (kh5, 20, .inl fo_75)), (h6, .inl (kh6, 20, .inl lo_75))] := hD
            refine lv_aload_n hx hb dX4_statement_91 rfl (lv_at hl 0 rfl) ?_
            refine va_get (D := (dC, dI)) (ci := 5) (v := .int v_1) (C := RX4) (T := TX4) (N := 14) hx hb hts (by decide +kernel) hown hK hP 0 rfl rfl 4 (by decide) (hts (.fieldLink RX4 64 "CobolDebugger" "statements" "I") (by decide +kernel)) (fun _ h9 => h9) rfl dX4_statement_92 ?_
            exact W.iret (v := v_1) hx hb hr (fun t ht hW => ⟨⟨v_1, (), rfl, by unfold stmtA; rw [if_neg hbd, if_pos c_28]; exact e_v_1, trivial⟩, hS.F ht⟩) hS.2.2 dX4_statement_95
        · refine lv_iconst (v := (-1)) hx hb dX4_statement_31 (by decide) ?_
          exact W.iret (v := (-1)) hx hb hr (fun t ht hW => ⟨⟨(-1), (), rfl, by unfold stmtA; rw [if_neg hbd, if_neg c_28], trivial⟩, hS.F ht⟩) hS.2.2 dX4_statement_32
      · refine lv_bipush (v := (-4)) hx hb dX4_statement_19 (by decide) ?_
        exact W.iret (v := (-4)) hx hb hr (fun t ht hW => ⟨⟨(-4), (), rfl, by unfold stmtA; rw [if_pos (Or.inr (Or.inr (Or.inr (Int32.not_le.mp c_16))))], trivial⟩, hS.F ht⟩) hS.2.2 dX4_statement_21

set_option maxHeartbeats 4000000 in
set_option maxRecDepth 100000 in
theorem c_X4_item (l : Launch) (dC : Nat → ClassId) (dI : Nat → Nat → Nat) (tT : Nat) (sz : Nat) (h0 h1 h2 h3 h4 h5 h6 h7 a0 b0 p0 k0 a1 a2 a3 : Nat) (ka1 ka2 ka3 : ClassId) (us ss bs : Nat → Int32) (sn sd ft md : Int32) (ug : Int32) (sx : Int32) (hm0 : 0 ≤ md.toInt) : Met l yX4_item wsX4_item ({ frames := 4, cells := 0, slots := 0, locals := 102 }) (va_Pc [.ref h0, .int ug, .int sx] (fun U => U.heap.size = sz ∧ va_P (dC, dI) vwCl [(h0, .inr (5, [.ref h1, .ref h2, .ref h3, .ref h4, .int sn, .ref h5, .ref h6, .ref h7, .ref a0, .ref b0, .ref p0, .ref k0, .int sd, .int ft])), (a0, .inr (1, [.ref a1, .ref a2, .ref a3, .int md])), (a1, .inl (ka1, 30, .inl us)), (a2, .inl (ka2, 30, .inl ss)), (a3, .inl (ka3, 270, .inl bs))] U.heap ∧ va_K (dC, dI) vwCl [(ka1, .int), (ka2, .int), (ka3, .byte)] U ∧ va_D (fun _ => True) [(h0, .inr (5, [.ref h1, .ref h2, .ref h3, .ref h4, .int sn, .ref h5, .ref h6, .ref h7, .ref a0, .ref b0, .ref p0, .ref k0, .int sd, .int ft])), (a0, .inr (1, [.ref a1, .ref a2, .ref a3, .int md])), (a1, .inl (ka1, 30, .inl us)), (a2, .inl (ka2, 30, .inl ss)), (a3, .inl (ka3, 270, .inl bs))] ∧ nW U ∧ tnW tT (va_A [(h0, .inr (5, [.ref h1, .ref h2, .ref h3, .ref h4, .int sn, .ref h5, .ref h6, .ref h7, .ref a0, .ref b0, .ref p0, .ref k0, .int sd, .int ft])), (a0, .inr (1, [.ref a1, .ref a2, .ref a3, .int md])), (a1, .inl (ka1, 30, .inl us)), (a2, .inl (ka2, 30, .inl ss)), (a3, .inl (ka3, 270, .inl bs))] sz) U)) (va_Qi (fun (r : Int32) (u : Unit) => r = itemA md ug sx) (fun (u : Unit) (t : State) => True) (va_A [(h0, .inr (5, [.ref h1, .ref h2, .ref h3, .ref h4, .int sn, .ref h5, .ref h6, .ref h7, .ref a0, .ref b0, .ref p0, .ref k0, .int sd, .int ft])), (a0, .inr (1, [.ref a1, .ref a2, .ref a3, .int md])), (a1, .inl (ka1, 30, .inl us)), (a2, .inl (ka2, 30, .inl ss)), (a3, .inl (ka3, 270, .inl bs))] sz)) 0 0 (va_A [(h0, .inr (5, [.ref h1, .ref h2, .ref h3, .ref h4, .int sn, .ref h5, .ref h6, .ref h7, .ref a0, .ref b0, .ref p0, .ref k0, .int sd, .int ft])), (a0, .inr (1, [.ref a1, .ref a2, .ref a3, .int md])), (a1, .inl (ka1, 30, .inl us)), (a2, .inl (ka2, 30, .inl ss)), (a3, .inl (ka3, 270, .inl bs))] sz) := by
  refine Met.ofW (cc := cX4_item) (maxL := 3) (ret := (some .int)) (by decide) rfl ?_
  intro p e s m args below meth c s₁ B hml hv
  obtain ⟨rfl, hsz, hP, hK, hD0, hN, hT⟩ := hv
  have hx := B.exec
  have hb := B.bytes
  have hr := B.returns
  have hts := atoms_spec (ws := wsX4_item) B.pre
  have hown : s.vm.findClass RX4 = some m.cls := findClass_of_methodNamed B.named
  have hlocks := B.notSynchronized
  subst hsz
  have hD := hD0.self (sz := s.heap.size)
  generalize hAe : va_A [(h0, .inr (5, [.ref h1, .ref h2, .ref h3, .ref h4, .int sn, .ref h5, .ref h6, .ref h7, .ref a0, .ref b0, .ref p0, .ref k0, .int sd, .int ft])), (a0, .inr (1, [.ref a1, .ref a2, .ref a3, .int md])), (a1, .inl (ka1, 30, .inl us)), (a2, .inl (ka2, 30, .inl ss)), (a3, .inl (ka3, 270, .inl bs))] s.heap.size = A at hD hT ⊢
  have hA : ∀ q : Nat, s.heap.size ≤ q → A q := fun q h => by rw [← hAe]; exact Or.inr h
  have hS : va_S A s.heap s.heap [] := va_S.rf
  obtain ⟨hZ9, hT9⟩ := id hT
  have hl := lv_entry ([.ref h0, .int ug, .int sx]) (n := 3) (Nat.le_of_ble_eq_true rfl)
  rw [lg_entry_eq]
  generalize (lg_sl ([.ref h0, .int ug, .int sx]) ++ List.replicate (3 - (lg_sl ([.ref h0, .int ug, .int sx])).length) Slot.unset).toArray = ls at hl ⊢
  have hl : lv_has ls 3 [(0, .ref h0), (1, .int ug), (2, .int sx)] := hl
  refine lv_iload_n hx hb dX4_item_0 rfl (lv_at hl 1 rfl) ?_
  refine lv_iload_n hx hb dX4_item_1 rfl (lv_at hl 2 rfl) ?_
  have hPc := hP.sub (ws' := []) [] rfl
  have hKc := hK.sub (tys' := []) [] rfl
  refine va_calli (va_runSN (As := [.int ug, .int sx]) (rest := []) ⟨hx, hb, hml, hown, hts⟩ (c_X0_canBe l dC dI ug sx) ⟨va_cnB 2 hts gX4_item_X0_canBe_n75 rfl rfl rfl (nwm hN (RX4, 75, yX0_canBe, RX4) (by decide +kernel)) (hts (.initialized RX0) (by decide +kernel)) (by decide +kernel) ⟨Nat.le_of_ble_eq_true rfl, Nat.le_of_ble_eq_true rfl⟩, hts (.static yX0_canBe) (by decide +kernel), trivial⟩ ⟨fun a U g mk q => by obtain ⟨q0, qP, qK⟩ := q; exact ⟨q0, qP, va_K.moved (u := U) (U := U.calling g mk a) (Vm.Alike.refl U.vm) qK⟩, fun U hU hW => ⟨rfl, by rw [hU]; exact hPc, va_K.moved hW.alike hKc⟩⟩ rfl rfl hl.1 rfl (lv_room (Nat.le_of_ble_eq_true rfl)) dX4_item_2 ⟨Nat.zero_le _, Nat.zero_le _⟩) hS (fun q _ h => h.elim) (fun q h => h.elim) (fun r_2 u t H1 locs ht hvm w_2 hB hz1 hk1 hS => ?_)
  try dsimp only at w_2
  have hP := rd_keep hP hk1
  clear hB hk1 hz1 ht hvm u t
  generalize H1 = H at hP hS ⊢
  have w_2 := z01 w_2
  refine lv_if_ne (tgt := 11) hx hb dX4_item_5 (by decide) (fun c_5 => ?_) (fun c_5 => ?_)
  · refine lv_aload_n hx hb dX4_item_11 rfl (lv_at hl 0 rfl) ?_
    refine va_get (D := (dC, dI)) (ci := 5) (v := .ref a0) (C := RX4) (T := TX4) (N := 14) hx hb hts (by decide +kernel) hown hK hP 0 rfl rfl 8 (by decide) (hts (.fieldLink RX4 35 "CobolDebugger" "items" "LCobolDebugger$Items;") (by decide +kernel)) (fun _ h9 => h9) rfl dX4_item_12 ?_
    refine lv_iload_n hx hb dX4_item_15 rfl (lv_at hl 1 rfl) ?_
    refine lv_iload_n hx hb dX4_item_16 rfl (lv_at hl 2 rfl) ?_
    have hPc := hP.sub (ws' := [(a0, .inr (1, [.ref a1, .ref a2, .ref a3, .int md])), (a1, .inl (ka1, 30, .inl us)), (a2, .inl (ka2, 30, .inl ss)), (a3, .inl (ka3, 270, .inl bs))]) [1, 2, 3, 4] rfl
    have hKc := hK.sub (tys' := [(ka1, .int), (ka2, .int), (ka3, .byte)]) [0, 1, 2] rfl
    have hDc := hD.sub (ws' := [(a0, .inr (1, [.ref a1, .ref a2, .ref a3, .int md])), (a1, .inl (ka1, 30, .inl us)), (a2, .inl (ka2, 30, .inl ss)), (a3, .inl (ka3, 270, .inl bs))]) [1, 2, 3, 4] (by decide) rfl
    have hFc := va_free (wc := [(a0, .inr (1, [.ref a1, .ref a2, .ref a3, .int md])), (a1, .inl (ka1, 30, .inl us)), (a2, .inl (ka2, 30, .inl ss)), (a3, .inl (ka3, 270, .inl bs))]) hD hS hA [1, 2, 3, 4] rfl
    refine va_calli (va_runVN (C := RX0) (As := [.int ug, .int sx]) (rest := []) ⟨hx, hb, hml, hown, hts⟩ (c_X0_make l dC dI tT H.size a0 a1 a2 a3 ka1 ka2 ka3 us ss bs md ug sx (hm0) ((sz_9 (fun h => c_5 (w_2.mpr h))).1) ((sz_9 (fun h => c_5 (w_2.mpr h))).2)) ⟨va_cnB 2 hts gX4_item_X0_make_n79 rfl rfl rfl (nwm hN (RX4, 79, yX0_make, RX4) (by decide +kernel)) (hts (.initialized RX0) (by decide +kernel)) (by decide +kernel) ⟨Nat.le_of_ble_eq_true rfl, Nat.le_of_ble_eq_true rfl⟩, hts (.instanceMethod yX0_make) (by decide +kernel), hts (.selects RX0 yX0_make yX0_make) (by decide +kernel)⟩ ⟨fun a U g mk q => by obtain ⟨q0, q1, qP, qK, qD, qT⟩ := q; exact ⟨q0, q1, qP, va_K.moved (u := U) (U := U.calling g mk a) (Vm.Alike.refl U.vm) qK, qD, tn_same qT⟩, va_recv hKc hPc (ci := 1) (q0 := 0) rfl rfl, fun U hU hW => ⟨rfl, by rw [hU], by rw [hU]; exact hPc, va_K.moved hW.alike hKc, hDc.weaken (fun _ _ _ _ => trivial), tn_in hW hU hS hFc hT⟩⟩ rfl rfl hl.1 rfl (lv_room (Nat.le_of_ble_eq_true rfl)) dX4_item_17 ⟨Nat.zero_le _, Nat.zero_le _⟩) hS (fun q _ h => hFc q h) (fun q h => hFc q h) (fun r_17 u t H1 locs ht hvm w_17 hB hz1 hk1 hS => ?_)
    try dsimp only at w_17
    obtain ⟨md_17, us_17, ss_17, bs_17⟩ := u
    obtain ⟨hP1, hD1⟩ := hB
    rw [ht] at hP1
    obtain ⟨hP, hD⟩ := va_join (wr := [(h0, .inr (5, [.ref h1, .ref h2, .ref h3, .ref h4, .int sn, .ref h5, .ref h6, .ref h7, .ref a0, .ref b0, .ref p0, .ref k0, .int sd, .int ft]))]) (w1 := [(a0, .inr (1, [.ref a1, .ref a2, .ref a3, .int md_17])), (a1, .inl (ka1, 30, .inl us_17)), (a2, .inl (ka2, 30, .inl ss_17)), (a3, .inl (ka3, 270, .inl bs_17))]) hP hD [1, 2, 3, 4] [0] rfl rfl (by decide) (by decide) hk1 hFc hP1 hD1
    generalize H1 = H at hP hS ⊢
    have hP := hP.sub (ws' := [(h0, .inr (5, [.ref h1, .ref h2, .ref h3, .ref h4, .int sn, .ref h5, .ref h6, .ref h7, .ref a0, .ref b0, .ref p0, .ref k0, .int sd, .int ft])), (a0, .inr (1, [.ref a1, .ref a2, .ref a3, .int md_17])), (a1, .inl (ka1, 30, .inl us_17)), (a2, .inl (ka2, 30, .inl ss_17)), (a3, .inl (ka3, 270, .inl bs_17))]) [0, 1, 2, 3, 4] rfl
    have hD := hD.sub (ws' := [(h0, .inr (5, [.ref h1, .ref h2, .ref h3, .ref h4, .int sn, .ref h5, .ref h6, .ref h7, .ref a0, .ref b0, .ref p0, .ref k0, .int sd, .int ft])), (a0, .inr (1, [.ref a1, .ref a2, .ref a3, .int md_17])), (a1, .inl (ka1, 30, .inl us_17)), (a2, .inl (ka2, 30, .inl ss_17)), (a3, .inl (ka3, 270, .inl bs_17))]) [0, 1, 2, 3, 4] (by decide) rfl
    exact W.iret (v := r_17) hx hb hr (fun t ht hW => ⟨⟨r_17, (), rfl, by unfold itemA; rw [if_neg (fun h => c_5 (w_2.mpr h))]; by_cases q : md < 30; rw [if_pos q]; exact (w_17.2.1 q).1; rw [if_neg q]; exact (w_17.1 q).1, trivial⟩, hS.F ht⟩) hS.2.2 dX4_item_20
  · refine lv_bipush (v := (-4)) hx hb dX4_item_8 (by decide) ?_
    exact W.iret (v := (-4)) hx hb hr (fun t ht hW => ⟨⟨(-4), (), rfl, by unfold itemA; rw [if_pos (w_2.mp c_5)], trivial⟩, hS.F ht⟩) hS.2.2 dX4_item_10

set_option maxHeartbeats 4000000 in
set_option maxRecDepth 100000 in
theorem c_X4_stop (l : Launch) (dC : Nat → ClassId) (dI : Nat → Nat → Nat) (sz : Nat) (h0 h1 h2 h3 h4 h5 h6 h7 a0 b0 p0 k0 a1 a2 a3 b1 b2 b3 : Nat) (kb1 kb2 kb3 : ClassId) (kd of cd : Nat → Int32) (sn sd ft md sm : Int32) (kn : Int32) (oo : Int32) (co : Int32) (hm0 : 0 ≤ sm.toInt) : Met l yX4_stop wsX4_stop ({ frames := 1, cells := 0, slots := 0, locals := 23 }) (va_Pc [.ref h0, .int kn, .int oo, .int co] (fun U => U.heap.size = sz ∧ va_P (dC, dI) vwCl [(h0, .inr (5, [.ref h1, .ref h2, .ref h3, .ref h4, .int sn, .ref h5, .ref h6, .ref h7, .ref a0, .ref b0, .ref p0, .ref k0, .int sd, .int ft])), (a0, .inr (1, [.ref a1, .ref a2, .ref a3, .int md])), (b0, .inr (4, [.ref b1, .ref b2, .ref b3, .int sm])), (b1, .inl (kb1, 20, .inl kd)), (b2, .inl (kb2, 20, .inl of)), (b3, .inl (kb3, 20, .inl cd))] U.heap ∧ va_K (dC, dI) vwCl [(kb1, .int), (kb2, .int), (kb3, .int)] U ∧ va_D (fun _ => True) [(h0, .inr (5, [.ref h1, .ref h2, .ref h3, .ref h4, .int sn, .ref h5, .ref h6, .ref h7, .ref a0, .ref b0, .ref p0, .ref k0, .int sd, .int ft])), (a0, .inr (1, [.ref a1, .ref a2, .ref a3, .int md])), (b0, .inr (4, [.ref b1, .ref b2, .ref b3, .int sm])), (b1, .inl (kb1, 20, .inl kd)), (b2, .inl (kb2, 20, .inl of)), (b3, .inl (kb3, 20, .inl cd))] ∧ nW U)) (va_Qi (fun (r : Int32) (u : Unit) => r = stopA md sm kn oo) (fun (u : Unit) (t : State) => True) (va_A [(h0, .inr (5, [.ref h1, .ref h2, .ref h3, .ref h4, .int sn, .ref h5, .ref h6, .ref h7, .ref a0, .ref b0, .ref p0, .ref k0, .int sd, .int ft])), (a0, .inr (1, [.ref a1, .ref a2, .ref a3, .int md])), (b0, .inr (4, [.ref b1, .ref b2, .ref b3, .int sm])), (b1, .inl (kb1, 20, .inl kd)), (b2, .inl (kb2, 20, .inl of)), (b3, .inl (kb3, 20, .inl cd))] sz)) 0 0 (va_A [(h0, .inr (5, [.ref h1, .ref h2, .ref h3, .ref h4, .int sn, .ref h5, .ref h6, .ref h7, .ref a0, .ref b0, .ref p0, .ref k0, .int sd, .int ft])), (a0, .inr (1, [.ref a1, .ref a2, .ref a3, .int md])), (b0, .inr (4, [.ref b1, .ref b2, .ref b3, .int sm])), (b1, .inl (kb1, 20, .inl kd)), (b2, .inl (kb2, 20, .inl of)), (b3, .inl (kb3, 20, .inl cd))] sz) := by
  refine Met.ofW (cc := cX4_stop) (maxL := 4) (ret := (some .int)) (by decide) rfl ?_
  intro p e s m args below meth c s₁ B hml hv
  obtain ⟨rfl, hsz, hP, hK, hD0, hN⟩ := hv
  have hx := B.exec
  have hb := B.bytes
  have hr := B.returns
  have hts := atoms_spec (ws := wsX4_stop) B.pre
  have hown : s.vm.findClass RX4 = some m.cls := findClass_of_methodNamed B.named
  have hlocks := B.notSynchronized
  subst hsz
  have hD := hD0.self (sz := s.heap.size)
  generalize hAe : va_A [(h0, .inr (5, [.ref h1, .ref h2, .ref h3, .ref h4, .int sn, .ref h5, .ref h6, .ref h7, .ref a0, .ref b0, .ref p0, .ref k0, .int sd, .int ft])), (a0, .inr (1, [.ref a1, .ref a2, .ref a3, .int md])), (b0, .inr (4, [.ref b1, .ref b2, .ref b3, .int sm])), (b1, .inl (kb1, 20, .inl kd)), (b2, .inl (kb2, 20, .inl of)), (b3, .inl (kb3, 20, .inl cd))] s.heap.size = A at hD ⊢
  have hA : ∀ q : Nat, s.heap.size ≤ q → A q := fun q h => by rw [← hAe]; exact Or.inr h
  have hS : va_S A s.heap s.heap [] := va_S.rf
  have hl := lv_entry ([.ref h0, .int kn, .int oo, .int co]) (n := 4) (Nat.le_of_ble_eq_true rfl)
  rw [lg_entry_eq]
  generalize (lg_sl ([.ref h0, .int kn, .int oo, .int co]) ++ List.replicate (4 - (lg_sl ([.ref h0, .int kn, .int oo, .int co])).length) Slot.unset).toArray = ls at hl ⊢
  have hl : lv_has ls 4 [(0, .ref h0), (1, .int kn), (2, .int oo), (3, .int co)] := hl
  refine lv_iload_n hx hb dX4_stop_0 rfl (lv_at hl 1 rfl) ?_
  refine lv_if_lt (tgt := 9) hx hb dX4_stop_1 (by decide) (fun c_1 => ?_) (fun c_1 => ?_)
  · refine lv_bipush (v := (-4)) hx hb dX4_stop_9 (by decide) ?_
    exact W.iret (v := (-4)) hx hb hr (fun t ht hW => ⟨⟨(-4), (), rfl, by unfold stopA; rw [if_pos (Or.inl c_1)], trivial⟩, hS.F ht⟩) hS.2.2 dX4_stop_11
  · refine lv_iload_n hx hb dX4_stop_4 rfl (lv_at hl 1 rfl) ?_
    refine lv_iconst (v := 4) hx hb dX4_stop_5 (by decide) ?_
    refine lv_icmp_le (tgt := 12) hx hb dX4_stop_6 (by decide) (fun c_6 => ?_) (fun c_6 => ?_)
    · refine lv_iload_n hx hb dX4_stop_12 rfl (lv_at hl 1 rfl) ?_
      refine lv_iconst (v := 2) hx hb dX4_stop_13 (by decide) ?_
      refine lv_icmp_eq (tgt := 22) hx hb dX4_stop_14 (by decide) (fun c_14 => ?_) (fun c_14 => ?_)
      · refine lv_aload_n hx hb dX4_stop_22 rfl (lv_at hl 0 rfl) ?_
        refine va_get (D := (dC, dI)) (ci := 5) (v := .ref a0) (C := RX4) (T := TX4) (N := 14) hx hb hts (by decide +kernel) hown hK hP 0 rfl rfl 8 (by decide) (hts (.fieldLink RX4 35 "CobolDebugger" "items" "LCobolDebugger$Items;") (by decide +kernel)) (fun _ h9 => h9) rfl dX4_stop_23 ?_
        refine lv_iload_n hx hb dX4_stop_26 rfl (lv_at hl 2 rfl) ?_
        have hPc := hP.sub (ws' := [(a0, .inr (1, [.ref a1, .ref a2, .ref a3, .int md]))]) [1] rfl
        have hKc := hK.sub (tys' := []) [] rfl
        refine va_calli (va_runVN (C := RX0) (As := [.int oo]) (rest := []) ⟨hx, hb, hml, hown, hts⟩ (c_X0_has l dC dI a0 a1 a2 a3 md oo) ⟨va_cnB 1 hts gX4_stop_X0_has_n86 rfl rfl rfl (nwm hN (RX4, 86, yX0_has, RX4) (by decide +kernel)) (hts (.initialized RX0) (by decide +kernel)) (by decide +kernel) ⟨Nat.le_of_ble_eq_true rfl, Nat.le_of_ble_eq_true rfl⟩, hts (.instanceMethod yX0_has) (by decide +kernel), hts (.selects RX0 yX0_has yX0_has) (by decide +kernel)⟩ ⟨fun a U g mk q => by obtain ⟨q0, qP, qK⟩ := q; exact ⟨q0, qP, va_K.moved (u := U) (U := U.calling g mk a) (Vm.Alike.refl U.vm) qK⟩, va_recv hKc hPc (ci := 1) (q0 := 0) rfl rfl, fun U hU hW => ⟨rfl, by rw [hU]; exact hPc, va_K.moved hW.alike hKc⟩⟩ rfl rfl hl.1 rfl (lv_room (Nat.le_of_ble_eq_true rfl)) dX4_stop_27 ⟨Nat.zero_le _, Nat.zero_le _⟩) hS (fun q _ h => h.elim) (fun q h => h.elim) (fun r_27 u t H1 locs ht hvm w_27 hB hz1 hk1 hS => ?_)
        try dsimp only at w_27
        have hP := rd_keep hP hk1
        clear hB hk1 hz1 ht hvm u t
        generalize H1 = H at hP hS ⊢
        have w_27 := z01 w_27
        refine lv_if_ne (tgt := 36) hx hb dX4_stop_30 (by decide) (fun c_30 => ?_) (fun c_30 => ?_)
        · refine lv_aload_n hx hb dX4_stop_36 rfl (lv_at hl 0 rfl) ?_
          refine va_get (D := (dC, dI)) (ci := 5) (v := .ref b0) (C := RX4) (T := TX4) (N := 14) hx hb hts (by decide +kernel) hown hK hP 0 rfl rfl 9 (by decide) (hts (.fieldLink RX4 42 "CobolDebugger" "stops" "LCobolDebugger$Stops;") (by decide +kernel)) (fun _ h9 => h9) rfl dX4_stop_37 ?_
          refine lv_iload_n hx hb dX4_stop_40 rfl (lv_at hl 1 rfl) ?_
          refine lv_iload_n hx hb dX4_stop_41 rfl (lv_at hl 2 rfl) ?_
          refine lv_iload_n hx hb dX4_stop_42 rfl (lv_at hl 3 rfl) ?_
          have hPc := hP.sub (ws' := [(b0, .inr (4, [.ref b1, .ref b2, .ref b3, .int sm])), (b1, .inl (kb1, 20, .inl kd)), (b2, .inl (kb2, 20, .inl of)), (b3, .inl (kb3, 20, .inl cd))]) [2, 3, 4, 5] rfl
          have hKc := hK.sub (tys' := [(kb1, .int), (kb2, .int), (kb3, .int)]) [0, 1, 2] rfl
          have hDc := hD.sub (ws' := [(b0, .inr (4, [.ref b1, .ref b2, .ref b3, .int sm])), (b1, .inl (kb1, 20, .inl kd)), (b2, .inl (kb2, 20, .inl of)), (b3, .inl (kb3, 20, .inl cd))]) [2, 3, 4, 5] (by decide) rfl
          have hFc := va_free (wc := [(b0, .inr (4, [.ref b1, .ref b2, .ref b3, .int sm])), (b1, .inl (kb1, 20, .inl kd)), (b2, .inl (kb2, 20, .inl of)), (b3, .inl (kb3, 20, .inl cd))]) hD hS hA [2, 3, 4, 5] rfl
          refine va_calli (va_runVN (C := RX3) (As := [.int kn, .int oo, .int co]) (rest := []) ⟨hx, hb, hml, hown, hts⟩ (c_X3_make l dC dI H.size b0 b1 b2 b3 kb1 kb2 kb3 kd of cd sm kn oo co (hm0)) ⟨va_cnB 3 hts gX4_stop_X3_make_n89 rfl rfl rfl (nwm hN (RX4, 89, yX3_make, RX4) (by decide +kernel)) (hts (.initialized RX3) (by decide +kernel)) (by decide +kernel) ⟨Nat.le_of_ble_eq_true rfl, Nat.le_of_ble_eq_true rfl⟩, hts (.instanceMethod yX3_make) (by decide +kernel), hts (.selects RX3 yX3_make yX3_make) (by decide +kernel)⟩ ⟨fun a U g mk q => by obtain ⟨q0, q1, qP, qK, qD⟩ := q; exact ⟨q0, q1, qP, va_K.moved (u := U) (U := U.calling g mk a) (Vm.Alike.refl U.vm) qK, qD⟩, va_recv hKc hPc (ci := 4) (q0 := 0) rfl rfl, fun U hU hW => ⟨rfl, by rw [hU], by rw [hU]; exact hPc, va_K.moved hW.alike hKc, hDc.weaken (fun _ _ _ _ => trivial)⟩⟩ rfl rfl hl.1 rfl (lv_room (Nat.le_of_ble_eq_true rfl)) dX4_stop_43 ⟨Nat.zero_le _, Nat.zero_le _⟩) hS (fun q _ h => hFc q h) (fun q h => hFc q h) (fun r_43 u t H1 locs ht hvm w_43 hB hz1 hk1 hS => ?_)
          try dsimp only at w_43
          obtain ⟨sm_43, kd_43, of_43, cd_43⟩ := u
          obtain ⟨hP1, hD1⟩ := hB
          rw [ht] at hP1
          obtain ⟨hP, hD⟩ := va_join (wr := [(h0, .inr (5, [.ref h1, .ref h2, .ref h3, .ref h4, .int sn, .ref h5, .ref h6, .ref h7, .ref a0, .ref b0, .ref p0, .ref k0, .int sd, .int ft])), (a0, .inr (1, [.ref a1, .ref a2, .ref a3, .int md]))]) (w1 := [(b0, .inr (4, [.ref b1, .ref b2, .ref b3, .int sm_43])), (b1, .inl (kb1, 20, .inl kd_43)), (b2, .inl (kb2, 20, .inl of_43)), (b3, .inl (kb3, 20, .inl cd_43))]) hP hD [2, 3, 4, 5] [0, 1] rfl rfl (by decide) (by decide) hk1 hFc hP1 hD1
          generalize H1 = H at hP hS ⊢
          have hP := hP.sub (ws' := [(h0, .inr (5, [.ref h1, .ref h2, .ref h3, .ref h4, .int sn, .ref h5, .ref h6, .ref h7, .ref a0, .ref b0, .ref p0, .ref k0, .int sd, .int ft])), (a0, .inr (1, [.ref a1, .ref a2, .ref a3, .int md])), (b0, .inr (4, [.ref b1, .ref b2, .ref b3, .int sm_43])), (b1, .inl (kb1, 20, .inl kd_43)), (b2, .inl (kb2, 20, .inl of_43)), (b3, .inl (kb3, 20, .inl cd_43))]) [0, 1, 2, 3, 4, 5] rfl
          have hD := hD.sub (ws' := [(h0, .inr (5, [.ref h1, .ref h2, .ref h3, .ref h4, .int sn, .ref h5, .ref h6, .ref h7, .ref a0, .ref b0, .ref p0, .ref k0, .int sd, .int ft])), (a0, .inr (1, [.ref a1, .ref a2, .ref a3, .int md])), (b0, .inr (4, [.ref b1, .ref b2, .ref b3, .int sm_43])), (b1, .inl (kb1, 20, .inl kd_43)), (b2, .inl (kb2, 20, .inl of_43)), (b3, .inl (kb3, 20, .inl cd_43))]) [0, 1, 2, 3, 4, 5] (by decide) rfl
          exact W.iret (v := r_43) hx hb hr (fun t ht hW => ⟨⟨r_43, (), rfl, by unfold stopA; rw [if_neg (fun h => h.elim c_1 (fun h => (Int32.not_lt.mpr c_6) h)), if_neg (fun h => c_30 (w_27.mpr h.2))]; by_cases q : sm < 20; rw [if_pos q]; exact (w_43.2 q).1; rw [if_neg q]; exact (w_43.1 q).1, trivial⟩, hS.F ht⟩) hS.2.2 dX4_stop_46
        · refine lv_bipush (v := (-2)) hx hb dX4_stop_33 (by decide) ?_
          exact W.iret (v := (-2)) hx hb hr (fun t ht hW => ⟨⟨(-2), (), rfl, by unfold stopA; rw [if_neg (fun h => h.elim c_1 (fun h => (Int32.not_lt.mpr c_6) h)), if_pos ⟨(Or.inl c_14), w_27.mp c_30⟩], trivial⟩, hS.F ht⟩) hS.2.2 dX4_stop_35
      · refine lv_iload_n hx hb dX4_stop_17 rfl (lv_at hl 1 rfl) ?_
        refine lv_iconst (v := 3) hx hb dX4_stop_18 (by decide) ?_
        refine lv_icmp_ne (tgt := 36) hx hb dX4_stop_19 (by decide) (fun c_19 => ?_) (fun c_19 => ?_)
        · refine lv_aload_n hx hb dX4_stop_36 rfl (lv_at hl 0 rfl) ?_
          refine va_get (D := (dC, dI)) (ci := 5) (v := .ref b0) (C := RX4) (T := TX4) (N := 14) hx hb hts (by decide +kernel) hown hK hP 0 rfl rfl 9 (by decide) (hts (.fieldLink RX4 42 "CobolDebugger" "stops" "LCobolDebugger$Stops;") (by decide +kernel)) (fun _ h9 => h9) rfl dX4_stop_37 ?_
          refine lv_iload_n hx hb dX4_stop_40 rfl (lv_at hl 1 rfl) ?_
          refine lv_iload_n hx hb dX4_stop_41 rfl (lv_at hl 2 rfl) ?_
          refine lv_iload_n hx hb dX4_stop_42 rfl (lv_at hl 3 rfl) ?_
          have hPc := hP.sub (ws' := [(b0, .inr (4, [.ref b1, .ref b2, .ref b3, .int sm])), (b1, .inl (kb1, 20, .inl kd)), (b2, .inl (kb2, 20, .inl of)), (b3, .inl (kb3, 20, .inl cd))]) [2, 3, 4, 5] rfl
          have hKc := hK.sub (tys' := [(kb1, .int), (kb2, .int), (kb3, .int)]) [0, 1, 2] rfl
          have hDc := hD.sub (ws' := [(b0, .inr (4, [.ref b1, .ref b2, .ref b3, .int sm])), (b1, .inl (kb1, 20, .inl kd)), (b2, .inl (kb2, 20, .inl of)), (b3, .inl (kb3, 20, .inl cd))]) [2, 3, 4, 5] (by decide) rfl
          have hFc := va_free (wc := [(b0, .inr (4, [.ref b1, .ref b2, .ref b3, .int sm])), (b1, .inl (kb1, 20, .inl kd)), (b2, .inl (kb2, 20, .inl of)), (b3, .inl (kb3, 20, .inl cd))]) hD hS hA [2, 3, 4, 5] rfl
          refine va_calli (va_runVN (C := RX3) (As := [.int kn, .int oo, .int co]) (rest := []) ⟨hx, hb, hml, hown, hts⟩ (c_X3_make l dC dI s.heap.size b0 b1 b2 b3 kb1 kb2 kb3 kd of cd sm kn oo co (hm0)) ⟨va_cnB 3 hts gX4_stop_X3_make_n89 rfl rfl rfl (nwm hN (RX4, 89, yX3_make, RX4) (by decide +kernel)) (hts (.initialized RX3) (by decide +kernel)) (by decide +kernel) ⟨Nat.le_of_ble_eq_true rfl, Nat.le_of_ble_eq_true rfl⟩, hts (.instanceMethod yX3_make) (by decide +kernel), hts (.selects RX3 yX3_make yX3_make) (by decide +kernel)⟩ ⟨fun a U g mk q => by obtain ⟨q0, q1, qP, qK, qD⟩ := q; exact ⟨q0, q1, qP, va_K.moved (u := U) (U := U.calling g mk a) (Vm.Alike.refl U.vm) qK, qD⟩, va_recv hKc hPc (ci := 4) (q0 := 0) rfl rfl, fun U hU hW => ⟨rfl, by rw [hU], by rw [hU]; exact hPc, va_K.moved hW.alike hKc, hDc.weaken (fun _ _ _ _ => trivial)⟩⟩ rfl rfl hl.1 rfl (lv_room (Nat.le_of_ble_eq_true rfl)) dX4_stop_43 ⟨Nat.zero_le _, Nat.zero_le _⟩) hS (fun q _ h => hFc q h) (fun q h => hFc q h) (fun r_43 u t H1 locs ht hvm w_43 hB hz1 hk1 hS => ?_)
          try dsimp only at w_43
          obtain ⟨sm_43, kd_43, of_43, cd_43⟩ := u
          obtain ⟨hP1, hD1⟩ := hB
          rw [ht] at hP1
          obtain ⟨hP, hD⟩ := va_join (wr := [(h0, .inr (5, [.ref h1, .ref h2, .ref h3, .ref h4, .int sn, .ref h5, .ref h6, .ref h7, .ref a0, .ref b0, .ref p0, .ref k0, .int sd, .int ft])), (a0, .inr (1, [.ref a1, .ref a2, .ref a3, .int md]))]) (w1 := [(b0, .inr (4, [.ref b1, .ref b2, .ref b3, .int sm_43])), (b1, .inl (kb1, 20, .inl kd_43)), (b2, .inl (kb2, 20, .inl of_43)), (b3, .inl (kb3, 20, .inl cd_43))]) hP hD [2, 3, 4, 5] [0, 1] rfl rfl (by decide) (by decide) hk1 hFc hP1 hD1
          generalize H1 = H at hP hS ⊢
          have hP := hP.sub (ws' := [(h0, .inr (5, [.ref h1, .ref h2, .ref h3, .ref h4, .int sn, .ref h5, .ref h6, .ref h7, .ref a0, .ref b0, .ref p0, .ref k0, .int sd, .int ft])), (a0, .inr (1, [.ref a1, .ref a2, .ref a3, .int md])), (b0, .inr (4, [.ref b1, .ref b2, .ref b3, .int sm_43])), (b1, .inl (kb1, 20, .inl kd_43)), (b2, .inl (kb2, 20, .inl of_43)), (b3, .inl (kb3, 20, .inl cd_43))]) [0, 1, 2, 3, 4, 5] rfl
          have hD := hD.sub (ws' := [(h0, .inr (5, [.ref h1, .ref h2, .ref h3, .ref h4, .int sn, .ref h5, .ref h6, .ref h7, .ref a0, .ref b0, .ref p0, .ref k0, .int sd, .int ft])), (a0, .inr (1, [.ref a1, .ref a2, .ref a3, .int md])), (b0, .inr (4, [.ref b1, .ref b2, .ref b3, .int sm_43])), (b1, .inl (kb1, 20, .inl kd_43)), (b2, .inl (kb2, 20, .inl of_43)), (b3, .inl (kb3, 20, .inl cd_43))]) [0, 1, 2, 3, 4, 5] (by decide) rfl
          exact W.iret (v := r_43) hx hb hr (fun t ht hW => ⟨⟨r_43, (), rfl, by unfold stopA; rw [if_neg (fun h => h.elim c_1 (fun h => (Int32.not_lt.mpr c_6) h)), if_neg (fun h => h.1.elim c_14 c_19)]; by_cases q : sm < 20; rw [if_pos q]; exact (w_43.2 q).1; rw [if_neg q]; exact (w_43.1 q).1, trivial⟩, hS.F ht⟩) hS.2.2 dX4_stop_46
        · refine lv_aload_n hx hb dX4_stop_22 rfl (lv_at hl 0 rfl) ?_
          refine va_get (D := (dC, dI)) (ci := 5) (v := .ref a0) (C := RX4) (T := TX4) (N := 14) hx hb hts (by decide +kernel) hown hK hP 0 rfl rfl 8 (by decide) (hts (.fieldLink RX4 35 "CobolDebugger" "items" "LCobolDebugger$Items;") (by decide +kernel)) (fun _ h9 => h9) rfl dX4_stop_23 ?_
          refine lv_iload_n hx hb dX4_stop_26 rfl (lv_at hl 2 rfl) ?_
          have hPc := hP.sub (ws' := [(a0, .inr (1, [.ref a1, .ref a2, .ref a3, .int md]))]) [1] rfl
          have hKc := hK.sub (tys' := []) [] rfl
          refine va_calli (va_runVN (C := RX0) (As := [.int oo]) (rest := []) ⟨hx, hb, hml, hown, hts⟩ (c_X0_has l dC dI a0 a1 a2 a3 md oo) ⟨va_cnB 1 hts gX4_stop_X0_has_n86 rfl rfl rfl (nwm hN (RX4, 86, yX0_has, RX4) (by decide +kernel)) (hts (.initialized RX0) (by decide +kernel)) (by decide +kernel) ⟨Nat.le_of_ble_eq_true rfl, Nat.le_of_ble_eq_true rfl⟩, hts (.instanceMethod yX0_has) (by decide +kernel), hts (.selects RX0 yX0_has yX0_has) (by decide +kernel)⟩ ⟨fun a U g mk q => by obtain ⟨q0, qP, qK⟩ := q; exact ⟨q0, qP, va_K.moved (u := U) (U := U.calling g mk a) (Vm.Alike.refl U.vm) qK⟩, va_recv hKc hPc (ci := 1) (q0 := 0) rfl rfl, fun U hU hW => ⟨rfl, by rw [hU]; exact hPc, va_K.moved hW.alike hKc⟩⟩ rfl rfl hl.1 rfl (lv_room (Nat.le_of_ble_eq_true rfl)) dX4_stop_27 ⟨Nat.zero_le _, Nat.zero_le _⟩) hS (fun q _ h => h.elim) (fun q h => h.elim) (fun r_27 u t H1 locs ht hvm w_27 hB hz1 hk1 hS => ?_)
          try dsimp only at w_27
          have hP := rd_keep hP hk1
          clear hB hk1 hz1 ht hvm u t
          generalize H1 = H at hP hS ⊢
          have w_27 := z01 w_27
          refine lv_if_ne (tgt := 36) hx hb dX4_stop_30 (by decide) (fun c_30 => ?_) (fun c_30 => ?_)
          · refine lv_aload_n hx hb dX4_stop_36 rfl (lv_at hl 0 rfl) ?_
            refine va_get (D := (dC, dI)) (ci := 5) (v := .ref b0) (C := RX4) (T := TX4) (N := 14) hx hb hts (by decide +kernel) hown hK hP 0 rfl rfl 9 (by decide) (hts (.fieldLink RX4 42 "CobolDebugger" "stops" "LCobolDebugger$Stops;") (by decide +kernel)) (fun _ h9 => h9) rfl dX4_stop_37 ?_
            refine lv_iload_n hx hb dX4_stop_40 rfl (lv_at hl 1 rfl) ?_
            refine lv_iload_n hx hb dX4_stop_41 rfl (lv_at hl 2 rfl) ?_
            refine lv_iload_n hx hb dX4_stop_42 rfl (lv_at hl 3 rfl) ?_
            have hPc := hP.sub (ws' := [(b0, .inr (4, [.ref b1, .ref b2, .ref b3, .int sm])), (b1, .inl (kb1, 20, .inl kd)), (b2, .inl (kb2, 20, .inl of)), (b3, .inl (kb3, 20, .inl cd))]) [2, 3, 4, 5] rfl
            have hKc := hK.sub (tys' := [(kb1, .int), (kb2, .int), (kb3, .int)]) [0, 1, 2] rfl
            have hDc := hD.sub (ws' := [(b0, .inr (4, [.ref b1, .ref b2, .ref b3, .int sm])), (b1, .inl (kb1, 20, .inl kd)), (b2, .inl (kb2, 20, .inl of)), (b3, .inl (kb3, 20, .inl cd))]) [2, 3, 4, 5] (by decide) rfl
            have hFc := va_free (wc := [(b0, .inr (4, [.ref b1, .ref b2, .ref b3, .int sm])), (b1, .inl (kb1, 20, .inl kd)), (b2, .inl (kb2, 20, .inl of)), (b3, .inl (kb3, 20, .inl cd))]) hD hS hA [2, 3, 4, 5] rfl
            refine va_calli (va_runVN (C := RX3) (As := [.int kn, .int oo, .int co]) (rest := []) ⟨hx, hb, hml, hown, hts⟩ (c_X3_make l dC dI H.size b0 b1 b2 b3 kb1 kb2 kb3 kd of cd sm kn oo co (hm0)) ⟨va_cnB 3 hts gX4_stop_X3_make_n89 rfl rfl rfl (nwm hN (RX4, 89, yX3_make, RX4) (by decide +kernel)) (hts (.initialized RX3) (by decide +kernel)) (by decide +kernel) ⟨Nat.le_of_ble_eq_true rfl, Nat.le_of_ble_eq_true rfl⟩, hts (.instanceMethod yX3_make) (by decide +kernel), hts (.selects RX3 yX3_make yX3_make) (by decide +kernel)⟩ ⟨fun a U g mk q => by obtain ⟨q0, q1, qP, qK, qD⟩ := q; exact ⟨q0, q1, qP, va_K.moved (u := U) (U := U.calling g mk a) (Vm.Alike.refl U.vm) qK, qD⟩, va_recv hKc hPc (ci := 4) (q0 := 0) rfl rfl, fun U hU hW => ⟨rfl, by rw [hU], by rw [hU]; exact hPc, va_K.moved hW.alike hKc, hDc.weaken (fun _ _ _ _ => trivial)⟩⟩ rfl rfl hl.1 rfl (lv_room (Nat.le_of_ble_eq_true rfl)) dX4_stop_43 ⟨Nat.zero_le _, Nat.zero_le _⟩) hS (fun q _ h => hFc q h) (fun q h => hFc q h) (fun r_43 u t H1 locs ht hvm w_43 hB hz1 hk1 hS => ?_)
            try dsimp only at w_43
            obtain ⟨sm_43, kd_43, of_43, cd_43⟩ := u
            obtain ⟨hP1, hD1⟩ := hB
            rw [ht] at hP1
            obtain ⟨hP, hD⟩ := va_join (wr := [(h0, .inr (5, [.ref h1, .ref h2, .ref h3, .ref h4, .int sn, .ref h5, .ref h6, .ref h7, .ref a0, .ref b0, .ref p0, .ref k0, .int sd, .int ft])), (a0, .inr (1, [.ref a1, .ref a2, .ref a3, .int md]))]) (w1 := [(b0, .inr (4, [.ref b1, .ref b2, .ref b3, .int sm_43])), (b1, .inl (kb1, 20, .inl kd_43)), (b2, .inl (kb2, 20, .inl of_43)), (b3, .inl (kb3, 20, .inl cd_43))]) hP hD [2, 3, 4, 5] [0, 1] rfl rfl (by decide) (by decide) hk1 hFc hP1 hD1
            generalize H1 = H at hP hS ⊢
            have hP := hP.sub (ws' := [(h0, .inr (5, [.ref h1, .ref h2, .ref h3, .ref h4, .int sn, .ref h5, .ref h6, .ref h7, .ref a0, .ref b0, .ref p0, .ref k0, .int sd, .int ft])), (a0, .inr (1, [.ref a1, .ref a2, .ref a3, .int md])), (b0, .inr (4, [.ref b1, .ref b2, .ref b3, .int sm_43])), (b1, .inl (kb1, 20, .inl kd_43)), (b2, .inl (kb2, 20, .inl of_43)), (b3, .inl (kb3, 20, .inl cd_43))]) [0, 1, 2, 3, 4, 5] rfl
            have hD := hD.sub (ws' := [(h0, .inr (5, [.ref h1, .ref h2, .ref h3, .ref h4, .int sn, .ref h5, .ref h6, .ref h7, .ref a0, .ref b0, .ref p0, .ref k0, .int sd, .int ft])), (a0, .inr (1, [.ref a1, .ref a2, .ref a3, .int md])), (b0, .inr (4, [.ref b1, .ref b2, .ref b3, .int sm_43])), (b1, .inl (kb1, 20, .inl kd_43)), (b2, .inl (kb2, 20, .inl of_43)), (b3, .inl (kb3, 20, .inl cd_43))]) [0, 1, 2, 3, 4, 5] (by decide) rfl
            exact W.iret (v := r_43) hx hb hr (fun t ht hW => ⟨⟨r_43, (), rfl, by unfold stopA; rw [if_neg (fun h => h.elim c_1 (fun h => (Int32.not_lt.mpr c_6) h)), if_neg (fun h => c_30 (w_27.mpr h.2))]; by_cases q : sm < 20; rw [if_pos q]; exact (w_43.2 q).1; rw [if_neg q]; exact (w_43.1 q).1, trivial⟩, hS.F ht⟩) hS.2.2 dX4_stop_46
          · refine lv_bipush (v := (-2)) hx hb dX4_stop_33 (by decide) ?_
            exact W.iret (v := (-2)) hx hb hr (fun t ht hW => ⟨⟨(-2), (), rfl, by unfold stopA; rw [if_neg (fun h => h.elim c_1 (fun h => (Int32.not_lt.mpr c_6) h)), if_pos ⟨(Or.inr c_19), w_27.mp c_30⟩], trivial⟩, hS.F ht⟩) hS.2.2 dX4_stop_35
    · refine lv_bipush (v := (-4)) hx hb dX4_stop_9 (by decide) ?_
      exact W.iret (v := (-4)) hx hb hr (fun t ht hW => ⟨⟨(-4), (), rfl, by unfold stopA; rw [if_pos (Or.inr (Int32.not_le.mp c_6))], trivial⟩, hS.F ht⟩) hS.2.2 dX4_stop_11
