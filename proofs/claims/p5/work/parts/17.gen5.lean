set_option maxHeartbeats 4000000 in
set_option maxRecDepth 100000 in
theorem g_X4_statement (l : Launch) (dC : Nat → ClassId) (dI : Nat → Nat → Nat) (sz : Nat) (h0 h1 h2 h3 h4 h5 h6 h7 a0 b0 p0 k0 : Nat) (kh1 kh2 kh3 kh5 kh6 : ClassId) (pg ln ds fo lo : Nat → Int32) (sn sd ft : Int32) (pa : Int32) (li : Int32) (hs0 : 0 ≤ sn.toInt) : Met l yX4_statement wsX4_statement ({ frames := 1, cells := 0, slots := 0, locals := 21 }) (va_Pc [.ref h0, .int pa, .int li] (fun U => U.heap.size = sz ∧ va_P (dC, dI) vwCl [(h0, .inr (5, [.ref h1, .ref h2, .ref h3, .ref h4, .int sn, .ref h5, .ref h6, .ref h7, .ref a0, .ref b0, .ref p0, .ref k0, .int sd, .int ft])), (h1, .inl (kh1, 101, .inl pg)), (h2, .inl (kh2, 101, .inl ln)), (h3, .inl (kh3, 101, .inl ds)), (h5, .inl (kh5, 20, .inl fo)), (h6, .inl (kh6, 20, .inl lo))] U.heap ∧ va_K (dC, dI) vwCl [(kh1, .int), (kh2, .int), (kh3, .int), (kh5, .int), (kh6, .int)] U ∧ va_D (fun _ => True) [(h0, .inr (5, [.ref h1, .ref h2, .ref h3, .ref h4, .int sn, .ref h5, .ref h6, .ref h7, .ref a0, .ref b0, .ref p0, .ref k0, .int sd, .int ft])), (h1, .inl (kh1, 101, .inl pg)), (h2, .inl (kh2, 101, .inl ln)), (h3, .inl (kh3, 101, .inl ds)), (h5, .inl (kh5, 20, .inl fo)), (h6, .inl (kh6, 20, .inl lo))])) (va_Qi (fun (r : Int32) (u : Int32 × Int32 × (Nat → Int32) × (Nat → Int32) × (Nat → Int32) × (Nat → Int32) × (Nat → Int32)) => r = stmtA sn pa li ∧ (u.1) = stmtN sn pa li ∧ (∀ md sm ss kd of, cfI sn md sm pg ds fo ss kd of → cfI (u.1) md sm (u.2.2.1) (u.2.2.2.2.1) (u.2.2.2.2.2.1) ss kd of) ∧ ∀ op nl nx nw bs pf lp nu kb, rnI sn sd op nl nx nw bs pf lp nu kb → rnI (u.1) (u.2.1) op nl nx nw bs pf lp nu kb) (fun (u : Int32 × Int32 × (Nat → Int32) × (Nat → Int32) × (Nat → Int32) × (Nat → Int32) × (Nat → Int32)) (t : State) => va_P (dC, dI) vwCl [(h0, .inr (5, [.ref h1, .ref h2, .ref h3, .ref h4, .int u.1, .ref h5, .ref h6, .ref h7, .ref a0, .ref b0, .ref p0, .ref k0, .int u.2.1, .int ft])), (h1, .inl (kh1, 101, .inl u.2.2.1)), (h2, .inl (kh2, 101, .inl u.2.2.2.1)), (h3, .inl (kh3, 101, .inl u.2.2.2.2.1)), (h5, .inl (kh5, 20, .inl u.2.2.2.2.2.1)), (h6, .inl (kh6, 20, .inl u.2.2.2.2.2.2))] t.heap ∧ va_D (va_A [(h0, .inr (5, [.ref h1, .ref h2, .ref h3, .ref h4, .int sn, .ref h5, .ref h6, .ref h7, .ref a0, .ref b0, .ref p0, .ref k0, .int sd, .int ft])), (h1, .inl (kh1, 101, .inl pg)), (h2, .inl (kh2, 101, .inl ln)), (h3, .inl (kh3, 101, .inl ds)), (h5, .inl (kh5, 20, .inl fo)), (h6, .inl (kh6, 20, .inl lo))] sz) [(h0, .inr (5, [.ref h1, .ref h2, .ref h3, .ref h4, .int u.1, .ref h5, .ref h6, .ref h7, .ref a0, .ref b0, .ref p0, .ref k0, .int u.2.1, .int ft])), (h1, .inl (kh1, 101, .inl u.2.2.1)), (h2, .inl (kh2, 101, .inl u.2.2.2.1)), (h3, .inl (kh3, 101, .inl u.2.2.2.2.1)), (h5, .inl (kh5, 20, .inl u.2.2.2.2.2.1)), (h6, .inl (kh6, 20, .inl u.2.2.2.2.2.2))]) (va_A [(h0, .inr (5, [.ref h1, .ref h2, .ref h3, .ref h4, .int sn, .ref h5, .ref h6, .ref h7, .ref a0, .ref b0, .ref p0, .ref k0, .int sd, .int ft])), (h1, .inl (kh1, 101, .inl pg)), (h2, .inl (kh2, 101, .inl ln)), (h3, .inl (kh3, 101, .inl ds)), (h5, .inl (kh5, 20, .inl fo)), (h6, .inl (kh6, 20, .inl lo))] sz)) 0 0 (va_A [(h0, .inr (5, [.ref h1, .ref h2, .ref h3, .ref h4, .int sn, .ref h5, .ref h6, .ref h7, .ref a0, .ref b0, .ref p0, .ref k0, .int sd, .int ft])), (h1, .inl (kh1, 101, .inl pg)), (h2, .inl (kh2, 101, .inl ln)), (h3, .inl (kh3, 101, .inl ds)), (h5, .inl (kh5, 20, .inl fo)), (h6, .inl (kh6, 20, .inl lo))] sz) := by
  refine Met.ofW (cc := cX4_statement) (maxL := 3) (ret := (some .int)) (by decide) rfl ?_
  intro p e s m args below meth c s₁ B hml hv
  obtain ⟨rfl, hsz, hP, hK, hD0⟩ := hv
  have hx := B.exec
  have hb := B.bytes
  have hr := B.returns
  have hts := atoms_spec (ws := wsX4_statement) B.pre
  have hown : s.vm.findClass RX4 = some m.cls := findClass_of_methodNamed B.named
  have hlocks := B.notSynchronized
  subst hsz
  have hD := hD0.self (sz := s.heap.size)
  generalize hAe : va_A [(h0, .inr (5, [.ref h1, .ref h2, .ref h3, .ref h4, .int sn, .ref h5, .ref h6, .ref h7, .ref a0, .ref b0, .ref p0, .ref k0, .int sd, .int ft])), (h1, .inl (kh1, 101, .inl pg)), (h2, .inl (kh2, 101, .inl ln)), (h3, .inl (kh3, 101, .inl ds)), (h5, .inl (kh5, 20, .inl fo)), (h6, .inl (kh6, 20, .inl lo))] s.heap.size = A at hD ⊢
  have hA : ∀ q : Nat, s.heap.size ≤ q → A q := fun q h => by rw [← hAe]; exact Or.inr h
  have hS : va_S A s.heap s.heap [] := va_S.rf
  have hl := lv_entry ([.ref h0, .int pa, .int li]) (n := 3) (Nat.le_of_ble_eq_true rfl)
  rw [lg_entry_eq]
  generalize (lg_sl ([.ref h0, .int pa, .int li]) ++ List.replicate (3 - (lg_sl ([.ref h0, .int pa, .int li])).length) Slot.unset).toArray = ls at hl ⊢
  have hl : lv_has ls 3 [(0, .ref h0), (1, .int pa), (2, .int li)] := hl
  refine lv_iload_n hx hb dX4_statement_0 rfl (lv_at hl 1 rfl) ?_
  have hPc := hP.sub (ws' := []) [] rfl
  have hKc := hK.sub (tys' := []) [] rfl
  refine va_calli (va_runS (As := [.int pa]) (rest := []) ⟨hx, hb, hml, hown, hts⟩ (c_X4_isParagraph l dC dI pa) (va_cwS 1 hts gX4_statement_X4_isParagraph rfl rfl rfl (by decide +kernel) ⟨Nat.le_of_ble_eq_true rfl, Nat.le_of_ble_eq_true rfl⟩) ⟨fun a U g mk q => by obtain ⟨q0, qP, qK⟩ := q; exact ⟨q0, qP, va_K.moved (u := U) (U := U.calling g mk a) (Vm.Alike.refl U.vm) qK⟩, fun U hU hW => ⟨rfl, by rw [hU]; exact hPc, va_K.moved hW.alike hKc⟩⟩ rfl rfl hl.1 rfl (lv_room (Nat.le_of_ble_eq_true rfl)) dX4_statement_1 ⟨Nat.zero_le _, Nat.zero_le _⟩) hS (fun q _ h => h.elim) (fun q h => h.elim) (fun r_1 u t H1 locs ht hvm w_1 hB hz1 hk1 hS => ?_)
  try dsimp only at w_1
  have hP := rd_keep hP hk1
  clear hB hk1 hz1 ht hvm u t
  generalize H1 = H at hP hS ⊢
  have w_1 := z01 w_1
  refine lv_if_eq (tgt := 19) hx hb dX4_statement_4 (by decide) (fun c_4 => ?_) (fun c_4 => ?_)
  · refine lv_bipush (v := (-4)) hx hb dX4_statement_19 (by decide) ?_
    exact W.iret (v := (-4)) hx hb hr (fun t ht hW => ⟨⟨(-4), (sn, sd, pg, ln, ds, fo, lo), rfl, ⟨by unfold stmtA; rw [if_pos (((w_1.mp c_4)).elim Or.inl (fun h => Or.inr (Or.inl (i_19.mp h))))], by unfold stmtN; rw [if_pos (((w_1.mp c_4)).elim Or.inl (fun h => Or.inr (Or.inl (i_19.mp h))))], fun _ _ _ _ _ h => h, fun _ _ _ _ _ _ _ _ _ h => h⟩, by rw [ht]; exact hP, hD⟩, hS.F ht⟩) hS.2.2 dX4_statement_21
  · refine lv_iload_n hx hb dX4_statement_7 rfl (lv_at hl 2 rfl) ?_
    refine lv_iconst (v := 1) hx hb dX4_statement_8 (by decide) ?_
    refine lv_icmp_lt (tgt := 19) hx hb dX4_statement_9 (by decide) (fun c_9 => ?_) (fun c_9 => ?_)
    · refine lv_bipush (v := (-4)) hx hb dX4_statement_19 (by decide) ?_
      exact W.iret (v := (-4)) hx hb hr (fun t ht hW => ⟨⟨(-4), (sn, sd, pg, ln, ds, fo, lo), rfl, ⟨by unfold stmtA; rw [if_pos (Or.inr (Or.inr (Or.inl c_9)))], by unfold stmtN; rw [if_pos (Or.inr (Or.inr (Or.inl c_9)))], fun _ _ _ _ _ h => h, fun _ _ _ _ _ _ _ _ _ h => h⟩, by rw [ht]; exact hP, hD⟩, hS.F ht⟩) hS.2.2 dX4_statement_21
    · refine lv_iload_n hx hb dX4_statement_12 rfl (lv_at hl 2 rfl) ?_
      refine lv_sipush (v := 9999) hx hb dX4_statement_13 (by decide) ?_
      refine lv_icmp_le (tgt := 22) hx hb dX4_statement_16 (by decide) (fun c_16 => ?_) (fun c_16 => ?_)
      · have hpa : vp_in pa 20 := ix_k 20 (by decide) (fun h => c_4 (w_1.mpr (Or.inl h))) (fun h => c_4 (w_1.mpr (Or.inr h)))
        have hbd : ¬ (pa < 0 ∨ 19 < pa ∨ li < 1 ∨ 9999 < li) := by rintro (h | h | h | h); exact c_4 (w_1.mpr (Or.inl h)); exact c_4 (w_1.mpr (Or.inr (i_19.mpr h))); exact c_9 h; exact (Int32.not_lt.mpr c_16) h
        refine lv_aload_n hx hb dX4_statement_22 rfl (lv_at hl 0 rfl) ?_
        refine va_get (D := (dC, dI)) (ci := 5) (v := .int sn) (C := RX4) (T := TX4) (N := 14) hx hb hts (by decide +kernel) hown hK hP 0 rfl rfl 4 (by decide) (hts (.fieldLink RX4 64 "CobolDebugger" "statements" "I") (by decide +kernel)) (fun _ h9 => h9) rfl dX4_statement_23 ?_
        refine lv_bipush (v := 100) hx hb dX4_statement_26 (by decide) ?_
        refine lv_icmp_lt (tgt := 33) hx hb dX4_statement_28 (by decide) (fun c_28 => ?_) (fun c_28 => ?_)
        · refine lv_aload_n hx hb dX4_statement_33 rfl (lv_at hl 0 rfl) ?_
          refine lv_dup hx hb dX4_statement_34 rfl ?_
          refine va_get (D := (dC, dI)) (ci := 5) (v := .int sn) (C := RX4) (T := TX4) (N := 14) hx hb hts (by decide +kernel) hown hK hP 0 rfl rfl 4 (by decide) (hts (.fieldLink RX4 64 "CobolDebugger" "statements" "I") (by decide +kernel)) (fun _ h9 => h9) rfl dX4_statement_35 ?_
          refine lv_iconst (v := 1) hx hb dX4_statement_38 (by decide) ?_
          refine lv_iadd hx hb dX4_statement_39 ?_
          refine lv_topi (fun v_1 e_v_1 => ?_)
          refine va_put (D := (dC, dI)) (ci := 5) (v := .int v_1) (ty := .int) (C := RX4) (T := TX4) (N := 14) hx hb hts (by decide +kernel) tyX4 tyX4_ok nmX4 hown hK hP hD hS 0 rfl rfl 4 (by decide) (hts (.fieldLink RX4 64 "CobolDebugger" "statements" "I") (by decide +kernel)) (fun _ h9 => h9) rfl (by decide +kernel) rfl rfl (Nat.le_of_ble_eq_true rfl) dX4_statement_40 (fun H locs hP hD hS => ?_)
          have hP : va_P (dC, dI) vwCl [(h0, .inr (5, [.ref h1, .ref h2, .ref h3, .ref h4, .int v_1, .ref h5, .ref h6, .ref h7, .ref a0, .ref b0, .ref p0, .ref k0, .int sd, .int ft])), (h1, .inl (kh1, 101, .inl pg)), (h2, .inl (kh2, 101, .inl ln)), (h3, .inl (kh3, 101, .inl ds)), (h5, .inl (kh5, 20, .inl fo)), (h6, .inl (kh6, 20, .inl lo))] H := hP
          have hD : va_D A [(h0, .inr (5, [.ref h1, .ref h2, .ref h3, .ref h4, .int v_1, .ref h5, .ref h6, .ref h7, .ref a0, .ref b0, .ref p0, .ref k0, .int sd, .int ft])), (h1, .inl (kh1, 101, .inl pg)), (h2, .inl (kh2, 101, .inl ln)), (h3, .inl (kh3, 101, .inl ds)), (h5, .inl (kh5, 20, .inl fo)), (h6, .inl (kh6, 20, .inl lo))] := hD
          have hsn : vp_in v_1 101 := by rw [e_v_1]; exact ix_n1 100 hs0 c_28 (by decide) (by decide)
          have hs9 : v_1.toInt = sn.toInt + 1 := by rw [e_v_1]; exact p1_100 hs0 c_28
          refine lv_aload_n hx hb dX4_statement_43 rfl (lv_at hl 0 rfl) ?_
          refine va_get (D := (dC, dI)) (ci := 5) (v := .ref h1) (C := RX4) (T := TX4) (N := 14) hx hb hts (by decide +kernel) hown hK hP 0 rfl rfl 0 (by decide) (hts (.fieldLink RX4 9 "CobolDebugger" "paragraphOf" "[I") (by decide +kernel)) (fun _ h9 => h9) rfl dX4_statement_44 ?_
          refine lv_aload_n hx hb dX4_statement_47 rfl (lv_at hl 0 rfl) ?_
          refine va_get (D := (dC, dI)) (ci := 5) (v := .int v_1) (C := RX4) (T := TX4) (N := 14) hx hb hts (by decide +kernel) hown hK hP 0 rfl rfl 4 (by decide) (hts (.fieldLink RX4 64 "CobolDebugger" "statements" "I") (by decide +kernel)) (fun _ h9 => h9) rfl dX4_statement_48 ?_
          refine lv_iload_n hx hb dX4_statement_51 rfl (lv_at hl 1 rfl) ?_
          refine va_iast hx hb hK hP hD hS 1 0 rfl rfl (i := v_1) hsn dX4_statement_52 (fun H locs hP hD hS => ?_)
          have hP : va_P (dC, dI) vwCl [(h0, .inr (5, [.ref h1, .ref h2, .ref h3, .ref h4, .int v_1, .ref h5, .ref h6, .ref h7, .ref a0, .ref b0, .ref p0, .ref k0, .int sd, .int ft])), (h1, .inl (kh1, 101, .inl (upd pg v_1.toNatClampNeg pa))), (h2, .inl (kh2, 101, .inl ln)), (h3, .inl (kh3, 101, .inl ds)), (h5, .inl (kh5, 20, .inl fo)), (h6, .inl (kh6, 20, .inl lo))] H := hP
          have hD : va_D A [(h0, .inr (5, [.ref h1, .ref h2, .ref h3, .ref h4, .int v_1, .ref h5, .ref h6, .ref h7, .ref a0, .ref b0, .ref p0, .ref k0, .int sd, .int ft])), (h1, .inl (kh1, 101, .inl (upd pg v_1.toNatClampNeg pa))), (h2, .inl (kh2, 101, .inl ln)), (h3, .inl (kh3, 101, .inl ds)), (h5, .inl (kh5, 20, .inl fo)), (h6, .inl (kh6, 20, .inl lo))] := hD
          obtain ⟨g_2, e_g_2⟩ : ∃ y, y = upd pg v_1.toNatClampNeg pa := ⟨_, rfl⟩
          rw [← e_g_2] at hP hD
          refine lv_aload_n hx hb dX4_statement_53 rfl (lv_at hl 0 rfl) ?_
          refine va_get (D := (dC, dI)) (ci := 5) (v := .ref h2) (C := RX4) (T := TX4) (N := 14) hx hb hts (by decide +kernel) hown hK hP 0 rfl rfl 1 (by decide) (hts (.fieldLink RX4 13 "CobolDebugger" "lineOf" "[I") (by decide +kernel)) (fun _ h9 => h9) rfl dX4_statement_54 ?_
          refine lv_aload_n hx hb dX4_statement_57 rfl (lv_at hl 0 rfl) ?_
          refine va_get (D := (dC, dI)) (ci := 5) (v := .int v_1) (C := RX4) (T := TX4) (N := 14) hx hb hts (by decide +kernel) hown hK hP 0 rfl rfl 4 (by decide) (hts (.fieldLink RX4 64 "CobolDebugger" "statements" "I") (by decide +kernel)) (fun _ h9 => h9) rfl dX4_statement_58 ?_
          refine lv_iload_n hx hb dX4_statement_61 rfl (lv_at hl 2 rfl) ?_
          refine va_iast hx hb hK hP hD hS 2 1 rfl rfl (i := v_1) hsn dX4_statement_62 (fun H locs hP hD hS => ?_)
          have hP : va_P (dC, dI) vwCl [(h0, .inr (5, [.ref h1, .ref h2, .ref h3, .ref h4, .int v_1, .ref h5, .ref h6, .ref h7, .ref a0, .ref b0, .ref p0, .ref k0, .int sd, .int ft])), (h1, .inl (kh1, 101, .inl g_2)), (h2, .inl (kh2, 101, .inl (upd ln v_1.toNatClampNeg li))), (h3, .inl (kh3, 101, .inl ds)), (h5, .inl (kh5, 20, .inl fo)), (h6, .inl (kh6, 20, .inl lo))] H := hP
          have hD : va_D A [(h0, .inr (5, [.ref h1, .ref h2, .ref h3, .ref h4, .int v_1, .ref h5, .ref h6, .ref h7, .ref a0, .ref b0, .ref p0, .ref k0, .int sd, .int ft])), (h1, .inl (kh1, 101, .inl g_2)), (h2, .inl (kh2, 101, .inl (upd ln v_1.toNatClampNeg li))), (h3, .inl (kh3, 101, .inl ds)), (h5, .inl (kh5, 20, .inl fo)), (h6, .inl (kh6, 20, .inl lo))] := hD
          obtain ⟨g_3, e_g_3⟩ : ∃ y, y = upd ln v_1.toNatClampNeg li := ⟨_, rfl⟩
          rw [← e_g_3] at hP hD
          refine lv_aload_n hx hb dX4_statement_63 rfl (lv_at hl 0 rfl) ?_
          refine va_get (D := (dC, dI)) (ci := 5) (v := .ref h3) (C := RX4) (T := TX4) (N := 14) hx hb hts (by decide +kernel) hown hK hP 0 rfl rfl 2 (by decide) (hts (.fieldLink RX4 16 "CobolDebugger" "does" "[I") (by decide +kernel)) (fun _ h9 => h9) rfl dX4_statement_64 ?_
          refine lv_aload_n hx hb dX4_statement_67 rfl (lv_at hl 0 rfl) ?_
          refine va_get (D := (dC, dI)) (ci := 5) (v := .int v_1) (C := RX4) (T := TX4) (N := 14) hx hb hts (by decide +kernel) hown hK hP 0 rfl rfl 4 (by decide) (hts (.fieldLink RX4 64 "CobolDebugger" "statements" "I") (by decide +kernel)) (fun _ h9 => h9) rfl dX4_statement_68 ?_
          refine lv_iconst (v := (-1)) hx hb dX4_statement_71 (by decide) ?_
          refine va_iast hx hb hK hP hD hS 3 2 rfl rfl (i := v_1) hsn dX4_statement_72 (fun H locs hP hD hS => ?_)
          have hP : va_P (dC, dI) vwCl [(h0, .inr (5, [.ref h1, .ref h2, .ref h3, .ref h4, .int v_1, .ref h5, .ref h6, .ref h7, .ref a0, .ref b0, .ref p0, .ref k0, .int sd, .int ft])), (h1, .inl (kh1, 101, .inl g_2)), (h2, .inl (kh2, 101, .inl g_3)), (h3, .inl (kh3, 101, .inl (upd ds v_1.toNatClampNeg (-1)))), (h5, .inl (kh5, 20, .inl fo)), (h6, .inl (kh6, 20, .inl lo))] H := hP
          have hD : va_D A [(h0, .inr (5, [.ref h1, .ref h2, .ref h3, .ref h4, .int v_1, .ref h5, .ref h6, .ref h7, .ref a0, .ref b0, .ref p0, .ref k0, .int sd, .int ft])), (h1, .inl (kh1, 101, .inl g_2)), (h2, .inl (kh2, 101, .inl g_3)), (h3, .inl (kh3, 101, .inl (upd ds v_1.toNatClampNeg (-1)))), (h5, .inl (kh5, 20, .inl fo)), (h6, .inl (kh6, 20, .inl lo))] := hD
          obtain ⟨g_4, e_g_4⟩ : ∃ y, y = upd ds v_1.toNatClampNeg (-1) := ⟨_, rfl⟩
          rw [← e_g_4] at hP hD
          refine lv_aload_n hx hb dX4_statement_73 rfl (lv_at hl 0 rfl) ?_
          refine lv_iload_n hx hb dX4_statement_74 rfl (lv_at hl 1 rfl) ?_
          have hPc := hP.sub (ws' := [(h0, .inr (5, [.ref h1, .ref h2, .ref h3, .ref h4, .int v_1, .ref h5, .ref h6, .ref h7, .ref a0, .ref b0, .ref p0, .ref k0, .int sd, .int ft])), (h5, .inl (kh5, 20, .inl fo)), (h6, .inl (kh6, 20, .inl lo))]) [0, 4, 5] rfl
          have hKc := hK.sub (tys' := [(kh5, .int), (kh6, .int)]) [3, 4] rfl
          have hDc := hD.sub (ws' := [(h0, .inr (5, [.ref h1, .ref h2, .ref h3, .ref h4, .int v_1, .ref h5, .ref h6, .ref h7, .ref a0, .ref b0, .ref p0, .ref k0, .int sd, .int ft])), (h5, .inl (kh5, 20, .inl fo)), (h6, .inl (kh6, 20, .inl lo))]) [0, 4, 5] (by decide) rfl
          have hFc := va_free (wc := [(h0, .inr (5, [.ref h1, .ref h2, .ref h3, .ref h4, .int v_1, .ref h5, .ref h6, .ref h7, .ref a0, .ref b0, .ref p0, .ref k0, .int sd, .int ft])), (h5, .inl (kh5, 20, .inl fo)), (h6, .inl (kh6, 20, .inl lo))]) hD hS hA [0, 4, 5] rfl
          refine va_callv (va_runV (As := [.int pa]) (rest := []) ⟨hx, hb, hml, hown, hts⟩ (c_X4_extendParagraph l dC dI H.size h0 h1 h2 h3 h4 h5 h6 h7 a0 b0 p0 k0 kh5 kh6 fo lo v_1 sd ft pa (hpa)) (cwV 1 hts gX4_statement_X4_extendParagraph rfl rfl rfl (by decide +kernel) ⟨Nat.le_of_ble_eq_true rfl, Nat.le_of_ble_eq_true rfl⟩) ⟨fun a U g mk q => by obtain ⟨q0, q1, qP, qK, qD⟩ := q; exact ⟨q0, q1, qP, va_K.moved (u := U) (U := U.calling g mk a) (Vm.Alike.refl U.vm) qK, qD⟩, va_recv hKc hPc (ci := 5) (q0 := 0) rfl rfl, fun U hU hW => ⟨rfl, by rw [hU], by rw [hU]; exact hPc, va_K.moved hW.alike hKc, hDc.weaken (fun _ _ _ _ => trivial)⟩⟩ rfl rfl hl.1 rfl (lv_room (Nat.le_of_ble_eq_true rfl)) dX4_statement_75 ⟨Nat.zero_le _, Nat.zero_le _⟩) hS (fun q _ h => hFc q h) (fun q h => hFc q h) (fun u t H1 locs ht hvm w_75 hB hz1 hk1 hS => ?_)
          try dsimp only at w_75
          obtain ⟨fo_75, lo_75⟩ := u
          obtain ⟨hP1, hD1⟩ := hB
          rw [ht] at hP1
          obtain ⟨hP, hD⟩ := va_join (wr := [(h1, .inl (kh1, 101, .inl g_2)), (h2, .inl (kh2, 101, .inl g_3)), (h3, .inl (kh3, 101, .inl g_4))]) (w1 := [(h0, .inr (5, [.ref h1, .ref h2, .ref h3, .ref h4, .int v_1, .ref h5, .ref h6, .ref h7, .ref a0, .ref b0, .ref p0, .ref k0, .int sd, .int ft])), (h5, .inl (kh5, 20, .inl fo_75)), (h6, .inl (kh6, 20, .inl lo_75))]) hP hD [0, 4, 5] [1, 2, 3] rfl rfl (by decide) (by decide) hk1 hFc hP1 hD1
          generalize H1 = H at hP hS ⊢
          have hP := hP.sub (ws' := [(h0, .inr (5, [.ref h1, .ref h2, .ref h3, .ref h4, .int v_1, .ref h5, .ref h6, .ref h7, .ref a0, .ref b0, .ref p0, .ref k0, .int sd, .int ft])), (h1, .inl (kh1, 101, .inl g_2)), (h2, .inl (kh2, 101, .inl g_3)), (h3, .inl (kh3, 101, .inl g_4)), (h5, .inl (kh5, 20, .inl fo_75)), (h6, .inl (kh6, 20, .inl lo_75))]) [3, 0, 1, 2, 4, 5] rfl
          have hD := hD.sub (ws' := [(h0, .inr (5, [.ref h1, .ref h2, .ref h3, .ref h4, .int v_1, .ref h5, .ref h6, .ref h7, .ref a0, .ref b0, .ref p0, .ref k0, .int sd, .int ft])), (h1, .inl (kh1, 101, .inl g_2)), (h2, .inl (kh2, 101, .inl g_3)), (h3, .inl (kh3, 101, .inl g_4)), (h5, .inl (kh5, 20, .inl fo_75)), (h6, .inl (kh6, 20, .inl lo_75))]) [3, 0, 1, 2, 4, 5] (by decide) rfl
          refine lv_aload_n hx hb dX4_statement_78 rfl (lv_at hl 0 rfl) ?_
          refine va_get (D := (dC, dI)) (ci := 5) (v := .int v_1) (C := RX4) (T := TX4) (N := 14) hx hb hts (by decide +kernel) hown hK hP 0 rfl rfl 4 (by decide) (hts (.fieldLink RX4 64 "CobolDebugger" "statements" "I") (by decide +kernel)) (fun _ h9 => h9) rfl dX4_statement_79 ?_
          refine lv_iconst (v := 1) hx hb dX4_statement_82 (by decide) ?_
          refine lv_icmp_ne (tgt := 91) hx hb dX4_statement_83 (by decide) (fun c_83 => ?_) (fun c_83 => ?_)
          · refine lv_aload_n hx hb dX4_statement_91 rfl (lv_at hl 0 rfl) ?_
            refine va_get (D := (dC, dI)) (ci := 5) (v := .int v_1) (C := RX4) (T := TX4) (N := 14) hx hb hts (by decide +kernel) hown hK hP 0 rfl rfl 4 (by decide) (hts (.fieldLink RX4 64 "CobolDebugger" "statements" "I") (by decide +kernel)) (fun _ h9 => h9) rfl dX4_statement_92 ?_
            exact W.iret (v := v_1) hx hb hr (fun t ht hW => ⟨⟨v_1, (v_1, sd, g_2, g_3, g_4, fo_75, lo_75), rfl, ⟨by unfold stmtA; rw [if_neg hbd, if_pos c_28]; exact e_v_1, by unfold stmtN; rw [if_neg hbd, if_pos c_28]; exact e_v_1, fun _ _ _ _ _ h => cf_stmt h c_28 hpa e_v_1 e_g_2 e_g_4 w_75.1, fun _ _ _ _ _ _ _ _ _ hr => rn_sn hr (show sn.toInt ≤ v_1.toInt by omega) ⟨hr.1, (show sd.toInt ≤ v_1.toInt by have := hr.2.1; omega)⟩⟩, by rw [ht]; exact hP, hD⟩, hS.F ht⟩) hS.2.2 dX4_statement_95
          · refine lv_aload_n hx hb dX4_statement_86 rfl (lv_at hl 0 rfl) ?_
            refine lv_iconst (v := 1) hx hb dX4_statement_87 (by decide) ?_
            refine va_put (D := (dC, dI)) (ci := 5) (v := .int 1) (ty := .int) (C := RX4) (T := TX4) (N := 14) hx hb hts (by decide +kernel) tyX4 tyX4_ok nmX4 hown hK hP hD hS 0 rfl rfl 12 (by decide) (hts (.fieldLink RX4 72 "CobolDebugger" "stand" "I") (by decide +kernel)) (fun _ h9 => h9) rfl (by decide +kernel) rfl rfl (Nat.le_of_ble_eq_true rfl) dX4_statement_88 (fun H locs hP hD hS => ?_)
            have hP : va_P (dC, dI) vwCl [(h0, .inr (5, [.ref h1, .ref h2, .ref h3, .ref h4, .int v_1, .ref h5, .ref h6, .ref h7, .ref a0, .ref b0, .ref p0, .ref k0, .int 1, .int ft])), (h1, .inl (kh1, 101, .inl g_2)), (h2, .inl (kh2, 101, .inl g_3)), (h3, .inl (kh3, 101, .inl g_4)), (h5, .inl (kh5, 20, .inl fo_75)), (h6, .inl (kh6, 20, .inl lo_75))] H := hP
            have hD : va_D A [(h0, .inr (5, [.ref h1, .ref h2, .ref h3, .ref h4, .int v_1, .ref h5, .ref h6, .ref h7, .ref a0, .ref b0, .ref p0, .ref k0, .int 1, .int ft])), (h1, .inl (kh1, 101, .inl g_2)), (h2, .inl (kh2, 101, .inl g_3)), (h3, .inl (kh3, 101, .inl g_4)), (h5, .inl (kh5, 20, .inl fo_75)), (h6, .inl (kh6, 20, .inl lo_75))] := hD
            refine lv_aload_n hx hb dX4_statement_91 rfl (lv_at hl 0 rfl) ?_
            refine va_get (D := (dC, dI)) (ci := 5) (v := .int v_1) (C := RX4) (T := TX4) (N := 14) hx hb hts (by decide +kernel) hown hK hP 0 rfl rfl 4 (by decide) (hts (.fieldLink RX4 64 "CobolDebugger" "statements" "I") (by decide +kernel)) (fun _ h9 => h9) rfl dX4_statement_92 ?_
            exact W.iret (v := v_1) hx hb hr (fun t ht hW => ⟨⟨v_1, (v_1, 1, g_2, g_3, g_4, fo_75, lo_75), rfl, ⟨by unfold stmtA; rw [if_neg hbd, if_pos c_28]; exact e_v_1, by unfold stmtN; rw [if_neg hbd, if_pos c_28]; exact e_v_1, fun _ _ _ _ _ h => cf_stmt h c_28 hpa e_v_1 e_g_2 e_g_4 w_75.1, fun _ _ _ _ _ _ _ _ _ hr => rn_sn hr (show sn.toInt ≤ v_1.toInt by omega) ⟨(show 0 ≤ (1 : Int32).toInt by decide), (show (1 : Int32).toInt ≤ v_1.toInt by rw [c_83]; exact Int.le_refl _)⟩⟩, by rw [ht]; exact hP, hD⟩, hS.F ht⟩) hS.2.2 dX4_statement_95
        · refine lv_iconst (v := (-1)) hx hb dX4_statement_31 (by decide) ?_
          exact W.iret (v := (-1)) hx hb hr (fun t ht hW => ⟨⟨(-1), (sn, sd, pg, ln, ds, fo, lo), rfl, ⟨by unfold stmtA; rw [if_neg hbd, if_neg c_28], by unfold stmtN; rw [if_neg hbd, if_neg c_28], fun _ _ _ _ _ h => h, fun _ _ _ _ _ _ _ _ _ h => h⟩, by rw [ht]; exact hP, hD⟩, hS.F ht⟩) hS.2.2 dX4_statement_32
      · refine lv_bipush (v := (-4)) hx hb dX4_statement_19 (by decide) ?_
        exact W.iret (v := (-4)) hx hb hr (fun t ht hW => ⟨⟨(-4), (sn, sd, pg, ln, ds, fo, lo), rfl, ⟨by unfold stmtA; rw [if_pos (Or.inr (Or.inr (Or.inr (Int32.not_le.mp c_16))))], by unfold stmtN; rw [if_pos (Or.inr (Or.inr (Or.inr (Int32.not_le.mp c_16))))], fun _ _ _ _ _ h => h, fun _ _ _ _ _ _ _ _ _ h => h⟩, by rw [ht]; exact hP, hD⟩, hS.F ht⟩) hS.2.2 dX4_statement_21

set_option maxHeartbeats 4000000 in
set_option maxRecDepth 100000 in
theorem g_X4_item (l : Launch) (dC : Nat → ClassId) (dI : Nat → Nat → Nat) (tT : Nat) (sz : Nat) (h0 h1 h2 h3 h4 h5 h6 h7 a0 b0 p0 k0 a1 a2 a3 : Nat) (ka1 ka2 ka3 : ClassId) (us ss bs : Nat → Int32) (sn sd ft md : Int32) (ug : Int32) (sx : Int32) (hm0 : 0 ≤ md.toInt) : Met l yX4_item wsX4_item ({ frames := 4, cells := 0, slots := 0, locals := 102 }) (va_Pc [.ref h0, .int ug, .int sx] (fun U => U.heap.size = sz ∧ va_P (dC, dI) vwCl [(h0, .inr (5, [.ref h1, .ref h2, .ref h3, .ref h4, .int sn, .ref h5, .ref h6, .ref h7, .ref a0, .ref b0, .ref p0, .ref k0, .int sd, .int ft])), (a0, .inr (1, [.ref a1, .ref a2, .ref a3, .int md])), (a1, .inl (ka1, 30, .inl us)), (a2, .inl (ka2, 30, .inl ss)), (a3, .inl (ka3, 270, .inl bs))] U.heap ∧ va_K (dC, dI) vwCl [(ka1, .int), (ka2, .int), (ka3, .byte)] U ∧ va_D (fun _ => True) [(h0, .inr (5, [.ref h1, .ref h2, .ref h3, .ref h4, .int sn, .ref h5, .ref h6, .ref h7, .ref a0, .ref b0, .ref p0, .ref k0, .int sd, .int ft])), (a0, .inr (1, [.ref a1, .ref a2, .ref a3, .int md])), (a1, .inl (ka1, 30, .inl us)), (a2, .inl (ka2, 30, .inl ss)), (a3, .inl (ka3, 270, .inl bs))] ∧ nW U ∧ tnW tT (va_A [(h0, .inr (5, [.ref h1, .ref h2, .ref h3, .ref h4, .int sn, .ref h5, .ref h6, .ref h7, .ref a0, .ref b0, .ref p0, .ref k0, .int sd, .int ft])), (a0, .inr (1, [.ref a1, .ref a2, .ref a3, .int md])), (a1, .inl (ka1, 30, .inl us)), (a2, .inl (ka2, 30, .inl ss)), (a3, .inl (ka3, 270, .inl bs))] sz) U)) (va_Qi (fun (r : Int32) (u : Int32 × (Nat → Int32) × (Nat → Int32) × (Nat → Int32)) => r = itemA md ug sx ∧ (itemOk ug sx → md < 30 → (u.1) = md + 1 ∧ (u.2.1) = upd us md.toNatClampNeg ug) ∧ (¬ (itemOk ug sx ∧ md < 30) → (u.1) = md ∧ (u.2.1) = us) ∧ (∀ sm pg ds fo kd of, cfI sn md sm pg ds fo ss kd of → cfI sn (u.1) sm pg ds fo (u.2.2.1) kd of) ∧ (fitB bs → fitB (u.2.2.2))) (fun (u : Int32 × (Nat → Int32) × (Nat → Int32) × (Nat → Int32)) (t : State) => va_P (dC, dI) vwCl [(h0, .inr (5, [.ref h1, .ref h2, .ref h3, .ref h4, .int sn, .ref h5, .ref h6, .ref h7, .ref a0, .ref b0, .ref p0, .ref k0, .int sd, .int ft])), (a0, .inr (1, [.ref a1, .ref a2, .ref a3, .int u.1])), (a1, .inl (ka1, 30, .inl u.2.1)), (a2, .inl (ka2, 30, .inl u.2.2.1)), (a3, .inl (ka3, 270, .inl u.2.2.2))] t.heap ∧ va_D (va_A [(h0, .inr (5, [.ref h1, .ref h2, .ref h3, .ref h4, .int sn, .ref h5, .ref h6, .ref h7, .ref a0, .ref b0, .ref p0, .ref k0, .int sd, .int ft])), (a0, .inr (1, [.ref a1, .ref a2, .ref a3, .int md])), (a1, .inl (ka1, 30, .inl us)), (a2, .inl (ka2, 30, .inl ss)), (a3, .inl (ka3, 270, .inl bs))] sz) [(h0, .inr (5, [.ref h1, .ref h2, .ref h3, .ref h4, .int sn, .ref h5, .ref h6, .ref h7, .ref a0, .ref b0, .ref p0, .ref k0, .int sd, .int ft])), (a0, .inr (1, [.ref a1, .ref a2, .ref a3, .int u.1])), (a1, .inl (ka1, 30, .inl u.2.1)), (a2, .inl (ka2, 30, .inl u.2.2.1)), (a3, .inl (ka3, 270, .inl u.2.2.2))]) (va_A [(h0, .inr (5, [.ref h1, .ref h2, .ref h3, .ref h4, .int sn, .ref h5, .ref h6, .ref h7, .ref a0, .ref b0, .ref p0, .ref k0, .int sd, .int ft])), (a0, .inr (1, [.ref a1, .ref a2, .ref a3, .int md])), (a1, .inl (ka1, 30, .inl us)), (a2, .inl (ka2, 30, .inl ss)), (a3, .inl (ka3, 270, .inl bs))] sz)) 0 0 (va_A [(h0, .inr (5, [.ref h1, .ref h2, .ref h3, .ref h4, .int sn, .ref h5, .ref h6, .ref h7, .ref a0, .ref b0, .ref p0, .ref k0, .int sd, .int ft])), (a0, .inr (1, [.ref a1, .ref a2, .ref a3, .int md])), (a1, .inl (ka1, 30, .inl us)), (a2, .inl (ka2, 30, .inl ss)), (a3, .inl (ka3, 270, .inl bs))] sz) := by
  refine Met.ofW (cc := cX4_item) (maxL := 3) (ret := (some .int)) (by decide) rfl ?_
  intro p e s m args below meth c s₁ B hml hv
  obtain ⟨rfl, hsz, hP, hK, hD0, hN, hT⟩ := hv
  have hx := B.exec
  have hb := B.bytes
  have hr := B.returns
  have hts := atoms_spec (ws := wsX4_item) B.pre
  have hown : s.vm.findClass RX4 = some m.cls := findClass_of_methodNamed B.named
  have hlocks := B.notSynchronized
  subst hsz
  have hD := hD0.self (sz := s.heap.size)
  generalize hAe : va_A [(h0, .inr (5, [.ref h1, .ref h2, .ref h3, .ref h4, .int sn, .ref h5, .ref h6, .ref h7, .ref a0, .ref b0, .ref p0, .ref k0, .int sd, .int ft])), (a0, .inr (1, [.ref a1, .ref a2, .ref a3, .int md])), (a1, .inl (ka1, 30, .inl us)), (a2, .inl (ka2, 30, .inl ss)), (a3, .inl (ka3, 270, .inl bs))] s.heap.size = A at hD hT ⊢
  have hA : ∀ q : Nat, s.heap.size ≤ q → A q := fun q h => by rw [← hAe]; exact Or.inr h
  have hS : va_S A s.heap s.heap [] := va_S.rf
  obtain ⟨hZ9, hT9⟩ := id hT
  have hl := lv_entry ([.ref h0, .int ug, .int sx]) (n := 3) (Nat.le_of_ble_eq_true rfl)
  rw [lg_entry_eq]
  generalize (lg_sl ([.ref h0, .int ug, .int sx]) ++ List.replicate (3 - (lg_sl ([.ref h0, .int ug, .int sx])).length) Slot.unset).toArray = ls at hl ⊢
  have hl : lv_has ls 3 [(0, .ref h0), (1, .int ug), (2, .int sx)] := hl
  refine lv_iload_n hx hb dX4_item_0 rfl (lv_at hl 1 rfl) ?_
  refine lv_iload_n hx hb dX4_item_1 rfl (lv_at hl 2 rfl) ?_
  have hPc := hP.sub (ws' := []) [] rfl
  have hKc := hK.sub (tys' := []) [] rfl
  refine va_calli (va_runSN (As := [.int ug, .int sx]) (rest := []) ⟨hx, hb, hml, hown, hts⟩ (c_X0_canBe l dC dI ug sx) ⟨va_cnB 2 hts gX4_item_X0_canBe_n75 rfl rfl rfl (nwm hN (RX4, 75, yX0_canBe, RX4) (by decide +kernel)) (hts (.initialized RX0) (by decide +kernel)) (by decide +kernel) ⟨Nat.le_of_ble_eq_true rfl, Nat.le_of_ble_eq_true rfl⟩, hts (.static yX0_canBe) (by decide +kernel), trivial⟩ ⟨fun a U g mk q => by obtain ⟨q0, qP, qK⟩ := q; exact ⟨q0, qP, va_K.moved (u := U) (U := U.calling g mk a) (Vm.Alike.refl U.vm) qK⟩, fun U hU hW => ⟨rfl, by rw [hU]; exact hPc, va_K.moved hW.alike hKc⟩⟩ rfl rfl hl.1 rfl (lv_room (Nat.le_of_ble_eq_true rfl)) dX4_item_2 ⟨Nat.zero_le _, Nat.zero_le _⟩) hS (fun q _ h => h.elim) (fun q h => h.elim) (fun r_2 u t H1 locs ht hvm w_2 hB hz1 hk1 hS => ?_)
  try dsimp only at w_2
  have hP := rd_keep hP hk1
  clear hB hk1 hz1 ht hvm u t
  generalize H1 = H at hP hS ⊢
  have w_2 := z01 w_2
  refine lv_if_ne (tgt := 11) hx hb dX4_item_5 (by decide) (fun c_5 => ?_) (fun c_5 => ?_)
  · refine lv_aload_n hx hb dX4_item_11 rfl (lv_at hl 0 rfl) ?_
    refine va_get (D := (dC, dI)) (ci := 5) (v := .ref a0) (C := RX4) (T := TX4) (N := 14) hx hb hts (by decide +kernel) hown hK hP 0 rfl rfl 8 (by decide) (hts (.fieldLink RX4 35 "CobolDebugger" "items" "LCobolDebugger$Items;") (by decide +kernel)) (fun _ h9 => h9) rfl dX4_item_12 ?_
    refine lv_iload_n hx hb dX4_item_15 rfl (lv_at hl 1 rfl) ?_
    refine lv_iload_n hx hb dX4_item_16 rfl (lv_at hl 2 rfl) ?_
    have hPc := hP.sub (ws' := [(a0, .inr (1, [.ref a1, .ref a2, .ref a3, .int md])), (a1, .inl (ka1, 30, .inl us)), (a2, .inl (ka2, 30, .inl ss)), (a3, .inl (ka3, 270, .inl bs))]) [1, 2, 3, 4] rfl
    have hKc := hK.sub (tys' := [(ka1, .int), (ka2, .int), (ka3, .byte)]) [0, 1, 2] rfl
    have hDc := hD.sub (ws' := [(a0, .inr (1, [.ref a1, .ref a2, .ref a3, .int md])), (a1, .inl (ka1, 30, .inl us)), (a2, .inl (ka2, 30, .inl ss)), (a3, .inl (ka3, 270, .inl bs))]) [1, 2, 3, 4] (by decide) rfl
    have hFc := va_free (wc := [(a0, .inr (1, [.ref a1, .ref a2, .ref a3, .int md])), (a1, .inl (ka1, 30, .inl us)), (a2, .inl (ka2, 30, .inl ss)), (a3, .inl (ka3, 270, .inl bs))]) hD hS hA [1, 2, 3, 4] rfl
    refine va_calli (va_runVN (C := RX0) (As := [.int ug, .int sx]) (rest := []) ⟨hx, hb, hml, hown, hts⟩ (c_X0_make l dC dI tT H.size a0 a1 a2 a3 ka1 ka2 ka3 us ss bs md ug sx (hm0) ((sz_9 (fun h => c_5 (w_2.mpr h))).1) ((sz_9 (fun h => c_5 (w_2.mpr h))).2)) ⟨va_cnB 2 hts gX4_item_X0_make_n79 rfl rfl rfl (nwm hN (RX4, 79, yX0_make, RX4) (by decide +kernel)) (hts (.initialized RX0) (by decide +kernel)) (by decide +kernel) ⟨Nat.le_of_ble_eq_true rfl, Nat.le_of_ble_eq_true rfl⟩, hts (.instanceMethod yX0_make) (by decide +kernel), hts (.selects RX0 yX0_make yX0_make) (by decide +kernel)⟩ ⟨fun a U g mk q => by obtain ⟨q0, q1, qP, qK, qD, qT⟩ := q; exact ⟨q0, q1, qP, va_K.moved (u := U) (U := U.calling g mk a) (Vm.Alike.refl U.vm) qK, qD, tn_same qT⟩, va_recv hKc hPc (ci := 1) (q0 := 0) rfl rfl, fun U hU hW => ⟨rfl, by rw [hU], by rw [hU]; exact hPc, va_K.moved hW.alike hKc, hDc.weaken (fun _ _ _ _ => trivial), tn_in hW hU hS hFc hT⟩⟩ rfl rfl hl.1 rfl (lv_room (Nat.le_of_ble_eq_true rfl)) dX4_item_17 ⟨Nat.zero_le _, Nat.zero_le _⟩) hS (fun q _ h => hFc q h) (fun q h => hFc q h) (fun r_17 u t H1 locs ht hvm w_17 hB hz1 hk1 hS => ?_)
    try dsimp only at w_17
    obtain ⟨md_17, us_17, ss_17, bs_17⟩ := u
    obtain ⟨hP1, hD1⟩ := hB
    rw [ht] at hP1
    obtain ⟨hP, hD⟩ := va_join (wr := [(h0, .inr (5, [.ref h1, .ref h2, .ref h3, .ref h4, .int sn, .ref h5, .ref h6, .ref h7, .ref a0, .ref b0, .ref p0, .ref k0, .int sd, .int ft]))]) (w1 := [(a0, .inr (1, [.ref a1, .ref a2, .ref a3, .int md_17])), (a1, .inl (ka1, 30, .inl us_17)), (a2, .inl (ka2, 30, .inl ss_17)), (a3, .inl (ka3, 270, .inl bs_17))]) hP hD [1, 2, 3, 4] [0] rfl rfl (by decide) (by decide) hk1 hFc hP1 hD1
    generalize H1 = H at hP hS ⊢
    have hP := hP.sub (ws' := [(h0, .inr (5, [.ref h1, .ref h2, .ref h3, .ref h4, .int sn, .ref h5, .ref h6, .ref h7, .ref a0, .ref b0, .ref p0, .ref k0, .int sd, .int ft])), (a0, .inr (1, [.ref a1, .ref a2, .ref a3, .int md_17])), (a1, .inl (ka1, 30, .inl us_17)), (a2, .inl (ka2, 30, .inl ss_17)), (a3, .inl (ka3, 270, .inl bs_17))]) [0, 1, 2, 3, 4] rfl
    have hD := hD.sub (ws' := [(h0, .inr (5, [.ref h1, .ref h2, .ref h3, .ref h4, .int sn, .ref h5, .ref h6, .ref h7, .ref a0, .ref b0, .ref p0, .ref k0, .int sd, .int ft])), (a0, .inr (1, [.ref a1, .ref a2, .ref a3, .int md_17])), (a1, .inl (ka1, 30, .inl us_17)), (a2, .inl (ka2, 30, .inl ss_17)), (a3, .inl (ka3, 270, .inl bs_17))]) [0, 1, 2, 3, 4] (by decide) rfl
    exact W.iret (v := r_17) hx hb hr (fun t ht hW => ⟨⟨r_17, (md_17, us_17, ss_17, bs_17), rfl, ⟨by unfold itemA; rw [if_neg (fun h => c_5 (w_2.mpr h))]; by_cases q : md < 30; rw [if_pos q]; exact (w_17.2.1 q).1; rw [if_neg q]; exact (w_17.1 q).1, fun _ q => ⟨(w_17.2.1 q).2.1, (w_17.2.1 q).2.2.1⟩, fun h => ⟨congrArg (fun z => z.1) (w_17.1 (fun q => h ⟨(fun h => c_5 (w_2.mpr h)), q⟩)).2, congrArg (fun z => z.2.1) (w_17.1 (fun q => h ⟨(fun h => c_5 (w_2.mpr h)), q⟩)).2⟩, fun _ _ _ _ _ _ h => it_cf h w_17 (sz_9 (fun h => c_5 (w_2.mpr h))).1 (sz_9 (fun h => c_5 (w_2.mpr h))).2, w_17.2.2⟩, by rw [ht]; exact hP, hD⟩, hS.F ht⟩) hS.2.2 dX4_item_20
  · refine lv_bipush (v := (-4)) hx hb dX4_item_8 (by decide) ?_
    exact W.iret (v := (-4)) hx hb hr (fun t ht hW => ⟨⟨(-4), (md, us, ss, bs), rfl, ⟨by unfold itemA; rw [if_pos (w_2.mp c_5)], fun h => absurd (w_2.mp c_5) h, fun _ => ⟨rfl, rfl⟩, fun _ _ _ _ _ _ h => h, id⟩, by rw [ht]; exact hP, hD⟩, hS.F ht⟩) hS.2.2 dX4_item_10

set_option maxHeartbeats 4000000 in
set_option maxRecDepth 100000 in
theorem g_X4_step (l : Launch) (dC : Nat → ClassId) (dI : Nat → Nat → Nat) (sz : Nat) (h0 h1 h2 h3 h4 h5 h6 h7 a0 b0 p0 k0 a1 a2 a3 : Nat) (kh3 kh4 : ClassId) (ds : Nat → Int32) (mo : Nat → Int64) (sn sd ft md : Int32) (st : Int32) (im : Int32) (v : Int64) (hs1 : sn.toInt ≤ 100) : Met l yX4_step wsX4_step ({ frames := 1, cells := 0, slots := 0, locals := 20 }) (va_Pc [.ref h0, .int st, .int im, .long v] (fun U => U.heap.size = sz ∧ va_P (dC, dI) vwCl [(h0, .inr (5, [.ref h1, .ref h2, .ref h3, .ref h4, .int sn, .ref h5, .ref h6, .ref h7, .ref a0, .ref b0, .ref p0, .ref k0, .int sd, .int ft])), (h3, .inl (kh3, 101, .inl ds)), (h4, .inl (kh4, 101, .inr (.inl mo))), (a0, .inr (1, [.ref a1, .ref a2, .ref a3, .int md]))] U.heap ∧ va_K (dC, dI) vwCl [(kh3, .int), (kh4, .long)] U ∧ va_D (fun _ => True) [(h0, .inr (5, [.ref h1, .ref h2, .ref h3, .ref h4, .int sn, .ref h5, .ref h6, .ref h7, .ref a0, .ref b0, .ref p0, .ref k0, .int sd, .int ft])), (h3, .inl (kh3, 101, .inl ds)), (h4, .inl (kh4, 101, .inr (.inl mo))), (a0, .inr (1, [.ref a1, .ref a2, .ref a3, .int md]))] ∧ nW U)) (va_Qi (fun (r : Int32) (u : (Nat → Int32) × (Nat → Int64)) => r = stepA sn md st im ∧ (∀ sm pg fo ss kd of, cfI sn md sm pg ds fo ss kd of → cfI sn md sm pg (u.1) fo ss kd of)) (fun (u : (Nat → Int32) × (Nat → Int64)) (t : State) => va_P (dC, dI) vwCl [(h0, .inr (5, [.ref h1, .ref h2, .ref h3, .ref h4, .int sn, .ref h5, .ref h6, .ref h7, .ref a0, .ref b0, .ref p0, .ref k0, .int sd, .int ft])), (h3, .inl (kh3, 101, .inl u.1)), (h4, .inl (kh4, 101, .inr (.inl u.2))), (a0, .inr (1, [.ref a1, .ref a2, .ref a3, .int md]))] t.heap ∧ va_D (va_A [(h0, .inr (5, [.ref h1, .ref h2, .ref h3, .ref h4, .int sn, .ref h5, .ref h6, .ref h7, .ref a0, .ref b0, .ref p0, .ref k0, .int sd, .int ft])), (h3, .inl (kh3, 101, .inl ds)), (h4, .inl (kh4, 101, .inr (.inl mo))), (a0, .inr (1, [.ref a1, .ref a2, .ref a3, .int md]))] sz) [(h0, .inr (5, [.ref h1, .ref h2, .ref h3, .ref h4, .int sn, .ref h5, .ref h6, .ref h7, .ref a0, .ref b0, .ref p0, .ref k0, .int sd, .int ft])), (h3, .inl (kh3, 101, .inl u.1)), (h4, .inl (kh4, 101, .inr (.inl u.2))), (a0, .inr (1, [.ref a1, .ref a2, .ref a3, .int md]))]) (va_A [(h0, .inr (5, [.ref h1, .ref h2, .ref h3, .ref h4, .int sn, .ref h5, .ref h6, .ref h7, .ref a0, .ref b0, .ref p0, .ref k0, .int sd, .int ft])), (h3, .inl (kh3, 101, .inl ds)), (h4, .inl (kh4, 101, .inr (.inl mo))), (a0, .inr (1, [.ref a1, .ref a2, .ref a3, .int md]))] sz)) 0 0 (va_A [(h0, .inr (5, [.ref h1, .ref h2, .ref h3, .ref h4, .int sn, .ref h5, .ref h6, .ref h7, .ref a0, .ref b0, .ref p0, .ref k0, .int sd, .int ft])), (h3, .inl (kh3, 101, .inl ds)), (h4, .inl (kh4, 101, .inr (.inl mo))), (a0, .inr (1, [.ref a1, .ref a2, .ref a3, .int md]))] sz) := by
  refine Met.ofW (cc := cX4_step) (maxL := 5) (ret := (some .int)) (by decide) rfl ?_
  intro p e s m args below meth c s₁ B hml hv
  obtain ⟨rfl, hsz, hP, hK, hD0, hN⟩ := hv
  have hx := B.exec
  have hb := B.bytes
  have hr := B.returns
  have hts := atoms_spec (ws := wsX4_step) B.pre
  have hown : s.vm.findClass RX4 = some m.cls := findClass_of_methodNamed B.named
  have hlocks := B.notSynchronized
  subst hsz
  have hD := hD0.self (sz := s.heap.size)
  generalize hAe : va_A [(h0, .inr (5, [.ref h1, .ref h2, .ref h3, .ref h4, .int sn, .ref h5, .ref h6, .ref h7, .ref a0, .ref b0, .ref p0, .ref k0, .int sd, .int ft])), (h3, .inl (kh3, 101, .inl ds)), (h4, .inl (kh4, 101, .inr (.inl mo))), (a0, .inr (1, [.ref a1, .ref a2, .ref a3, .int md]))] s.heap.size = A at hD ⊢
  have hA : ∀ q : Nat, s.heap.size ≤ q → A q := fun q h => by rw [← hAe]; exact Or.inr h
  have hS : va_S A s.heap s.heap [] := va_S.rf
  have hl := lv_entry ([.ref h0, .int st, .int im, .long v]) (n := 5) (Nat.le_of_ble_eq_true rfl)
  rw [lg_entry_eq]
  generalize (lg_sl ([.ref h0, .int st, .int im, .long v]) ++ List.replicate (5 - (lg_sl ([.ref h0, .int st, .int im, .long v])).length) Slot.unset).toArray = ls at hl ⊢
  have hl : lv_has ls 5 [(0, .ref h0), (1, .int st), (2, .int im), (3, .long v)] := hl
  refine lv_iload_n hx hb dX4_step_0 rfl (lv_at hl 1 rfl) ?_
  refine lv_iconst (v := 1) hx hb dX4_step_1 (by decide) ?_
  refine lv_icmp_lt (tgt := 24) hx hb dX4_step_2 (by decide) (fun c_2 => ?_) (fun c_2 => ?_)
  · refine lv_bipush (v := (-2)) hx hb dX4_step_24 (by decide) ?_
    exact W.iret (v := (-2)) hx hb hr (fun t ht hW => ⟨⟨(-2), (ds, mo), rfl, ⟨by unfold stepA; rw [if_pos (Or.inl c_2)], fun _ _ _ _ _ _ h => h⟩, by rw [ht]; exact hP, hD⟩, hS.F ht⟩) hS.2.2 dX4_step_26
  · refine lv_iload_n hx hb dX4_step_5 rfl (lv_at hl 1 rfl) ?_
    refine lv_aload_n hx hb dX4_step_6 rfl (lv_at hl 0 rfl) ?_
    refine va_get (D := (dC, dI)) (ci := 5) (v := .int sn) (C := RX4) (T := TX4) (N := 14) hx hb hts (by decide +kernel) hown hK hP 0 rfl rfl 4 (by decide) (hts (.fieldLink RX4 64 "CobolDebugger" "statements" "I") (by decide +kernel)) (fun _ h9 => h9) rfl dX4_step_7 ?_
    refine lv_icmp_gt (tgt := 24) hx hb dX4_step_10 (by decide) (fun c_10 => ?_) (fun c_10 => ?_)
    · refine lv_bipush (v := (-2)) hx hb dX4_step_24 (by decide) ?_
      exact W.iret (v := (-2)) hx hb hr (fun t ht hW => ⟨⟨(-2), (ds, mo), rfl, ⟨by unfold stepA; rw [if_pos (Or.inr (Or.inl c_10))], fun _ _ _ _ _ _ h => h⟩, by rw [ht]; exact hP, hD⟩, hS.F ht⟩) hS.2.2 dX4_step_26
    · refine lv_iload_n hx hb dX4_step_13 rfl (lv_at hl 2 rfl) ?_
      refine lv_aload_n hx hb dX4_step_14 rfl (lv_at hl 0 rfl) ?_
      refine va_get (D := (dC, dI)) (ci := 5) (v := .ref a0) (C := RX4) (T := TX4) (N := 14) hx hb hts (by decide +kernel) hown hK hP 0 rfl rfl 8 (by decide) (hts (.fieldLink RX4 35 "CobolDebugger" "items" "LCobolDebugger$Items;") (by decide +kernel)) (fun _ h9 => h9) rfl dX4_step_15 ?_
      refine va_getN (D := (dC, dI)) (ci := 1) (v := .int md) (C := RX0) (T := TX0) (N := 4) hx hb hts (by decide +kernel) hown hK hP 3 rfl rfl 3 (by decide) (va_Nw.use (w := .fieldLinkNest RX4 83 "CobolDebugger$Items" "made" "I" RX4) rfl (nwf hN (RX4, 83, "CobolDebugger$Items", "made", "I", RX4) (by decide +kernel))) (fun _ h9 => h9) rfl dX4_step_18 ?_
      refine lv_icmp_lt (tgt := 27) hx hb dX4_step_21 (by decide) (fun c_21 => ?_) (fun c_21 => ?_)
      · have hb9 : ¬ (st < 1 ∨ sn < st ∨ md ≤ im) := by rintro (h | h | h); exact c_2 h; exact c_10 h; exact (Int32.not_le.mpr c_21) h
        have hst9 : vp_in st 101 := sp_ix c_2 c_10 hs1
        refine lv_iload_n hx hb dX4_step_27 rfl (lv_at hl 2 rfl) ?_
        refine lv_bipush (v := (-2)) hx hb dX4_step_28 (by decide) ?_
        refine lv_icmp_gt (tgt := 46) hx hb dX4_step_30 (by decide) (fun c_30 => ?_) (fun c_30 => ?_)
        · refine lv_aload_n hx hb dX4_step_46 rfl (lv_at hl 0 rfl) ?_
          refine va_get (D := (dC, dI)) (ci := 5) (v := .ref h3) (C := RX4) (T := TX4) (N := 14) hx hb hts (by decide +kernel) hown hK hP 0 rfl rfl 2 (by decide) (hts (.fieldLink RX4 16 "CobolDebugger" "does" "[I") (by decide +kernel)) (fun _ h9 => h9) rfl dX4_step_47 ?_
          refine lv_iload_n hx hb dX4_step_50 rfl (lv_at hl 1 rfl) ?_
          refine lv_iload_n hx hb dX4_step_51 rfl (lv_at hl 2 rfl) ?_
          refine va_iast hx hb hK hP hD hS 1 0 rfl rfl (i := st) hst9 dX4_step_52 (fun H locs hP hD hS => ?_)
          have hP : va_P (dC, dI) vwCl [(h0, .inr (5, [.ref h1, .ref h2, .ref h3, .ref h4, .int sn, .ref h5, .ref h6, .ref h7, .ref a0, .ref b0, .ref p0, .ref k0, .int sd, .int ft])), (h3, .inl (kh3, 101, .inl (upd ds st.toNatClampNeg im))), (h4, .inl (kh4, 101, .inr (.inl mo))), (a0, .inr (1, [.ref a1, .ref a2, .ref a3, .int md]))] H := hP
          have hD : va_D A [(h0, .inr (5, [.ref h1, .ref h2, .ref h3, .ref h4, .int sn, .ref h5, .ref h6, .ref h7, .ref a0, .ref b0, .ref p0, .ref k0, .int sd, .int ft])), (h3, .inl (kh3, 101, .inl (upd ds st.toNatClampNeg im))), (h4, .inl (kh4, 101, .inr (.inl mo))), (a0, .inr (1, [.ref a1, .ref a2, .ref a3, .int md]))] := hD
          obtain ⟨g_1, e_g_1⟩ : ∃ y, y = upd ds st.toNatClampNeg im := ⟨_, rfl⟩
          rw [← e_g_1] at hP hD
          refine lv_aload_n hx hb dX4_step_53 rfl (lv_at hl 0 rfl) ?_
          refine va_get (D := (dC, dI)) (ci := 5) (v := .ref h4) (C := RX4) (T := TX4) (N := 14) hx hb hts (by decide +kernel) hown hK hP 0 rfl rfl 3 (by decide) (hts (.fieldLink RX4 19 "CobolDebugger" "more" "[J") (by decide +kernel)) (fun _ h9 => h9) rfl dX4_step_54 ?_
          refine lv_iload_n hx hb dX4_step_57 rfl (lv_at hl 1 rfl) ?_
          refine lv_lload_n hx hb dX4_step_58 rfl (lv_at hl 3 rfl) ?_
          refine va_last hx hb hK hP hD hS 2 1 rfl rfl (i := st) hst9 dX4_step_59 (fun H locs hP hD hS => ?_)
          have hP : va_P (dC, dI) vwCl [(h0, .inr (5, [.ref h1, .ref h2, .ref h3, .ref h4, .int sn, .ref h5, .ref h6, .ref h7, .ref a0, .ref b0, .ref p0, .ref k0, .int sd, .int ft])), (h3, .inl (kh3, 101, .inl g_1)), (h4, .inl (kh4, 101, .inr (.inl (vp_updL mo st.toNatClampNeg v)))), (a0, .inr (1, [.ref a1, .ref a2, .ref a3, .int md]))] H := hP
          have hD : va_D A [(h0, .inr (5, [.ref h1, .ref h2, .ref h3, .ref h4, .int sn, .ref h5, .ref h6, .ref h7, .ref a0, .ref b0, .ref p0, .ref k0, .int sd, .int ft])), (h3, .inl (kh3, 101, .inl g_1)), (h4, .inl (kh4, 101, .inr (.inl (vp_updL mo st.toNatClampNeg v)))), (a0, .inr (1, [.ref a1, .ref a2, .ref a3, .int md]))] := hD
          obtain ⟨g_2, e_g_2⟩ : ∃ y, y = vp_updL mo st.toNatClampNeg v := ⟨_, rfl⟩
          rw [← e_g_2] at hP hD
          refine lv_iconst (v := 1) hx hb dX4_step_60 (by decide) ?_
          exact W.iret (v := 1) hx hb hr (fun t ht hW => ⟨⟨1, (g_1, g_2), rfl, ⟨by unfold stepA; rw [if_neg hb9, if_neg (fun h => sp_no c_30 h)], fun _ _ _ _ _ _ h => cf_step h (sp_ge (fun h => sp_no c_30 h)) (by rw [i_lt] at c_21; exact c_21) e_g_1⟩, by rw [ht]; exact hP, hD⟩, hS.F ht⟩) hS.2.2 dX4_step_61
        · refine lv_bipush (v := (-2)) hx hb dX4_step_33 (by decide) ?_
          refine lv_iload_n hx hb dX4_step_35 rfl (lv_at hl 2 rfl) ?_
          refine lv_isub hx hb dX4_step_36 ?_
          have hPc := hP.sub (ws' := []) [] rfl
          have hKc := hK.sub (tys' := []) [] rfl
          refine va_calli (va_runS (As := [.int ((-2) - im)]) (rest := []) ⟨hx, hb, hml, hown, hts⟩ (c_X4_isParagraph l dC dI ((-2) - im)) (va_cwS 1 hts gX4_step_X4_isParagraph rfl rfl rfl (by decide +kernel) ⟨Nat.le_of_ble_eq_true rfl, Nat.le_of_ble_eq_true rfl⟩) ⟨fun a U g mk q => by obtain ⟨q0, qP, qK⟩ := q; exact ⟨q0, qP, va_K.moved (u := U) (U := U.calling g mk a) (Vm.Alike.refl U.vm) qK⟩, fun U hU hW => ⟨rfl, by rw [hU]; exact hPc, va_K.moved hW.alike hKc⟩⟩ rfl rfl hl.1 rfl (lv_room (Nat.le_of_ble_eq_true rfl)) dX4_step_37 ⟨Nat.zero_le _, Nat.zero_le _⟩) hS (fun q _ h => h.elim) (fun q h => h.elim) (fun r_37 u t H1 locs ht hvm w_37 hB hz1 hk1 hS => ?_)
          try dsimp only at w_37
          have hP := rd_keep hP hk1
          clear hB hk1 hz1 ht hvm u t
          generalize H1 = H at hP hS ⊢
          have w_37 := z01 w_37
          refine lv_if_ne (tgt := 46) hx hb dX4_step_40 (by decide) (fun c_40 => ?_) (fun c_40 => ?_)
          · refine lv_aload_n hx hb dX4_step_46 rfl (lv_at hl 0 rfl) ?_
            refine va_get (D := (dC, dI)) (ci := 5) (v := .ref h3) (C := RX4) (T := TX4) (N := 14) hx hb hts (by decide +kernel) hown hK hP 0 rfl rfl 2 (by decide) (hts (.fieldLink RX4 16 "CobolDebugger" "does" "[I") (by decide +kernel)) (fun _ h9 => h9) rfl dX4_step_47 ?_
            refine lv_iload_n hx hb dX4_step_50 rfl (lv_at hl 1 rfl) ?_
            refine lv_iload_n hx hb dX4_step_51 rfl (lv_at hl 2 rfl) ?_
            refine va_iast hx hb hK hP hD hS 1 0 rfl rfl (i := st) hst9 dX4_step_52 (fun H locs hP hD hS => ?_)
            have hP : va_P (dC, dI) vwCl [(h0, .inr (5, [.ref h1, .ref h2, .ref h3, .ref h4, .int sn, .ref h5, .ref h6, .ref h7, .ref a0, .ref b0, .ref p0, .ref k0, .int sd, .int ft])), (h3, .inl (kh3, 101, .inl (upd ds st.toNatClampNeg im))), (h4, .inl (kh4, 101, .inr (.inl mo))), (a0, .inr (1, [.ref a1, .ref a2, .ref a3, .int md]))] H := hP
            have hD : va_D A [(h0, .inr (5, [.ref h1, .ref h2, .ref h3, .ref h4, .int sn, .ref h5, .ref h6, .ref h7, .ref a0, .ref b0, .ref p0, .ref k0, .int sd, .int ft])), (h3, .inl (kh3, 101, .inl (upd ds st.toNatClampNeg im))), (h4, .inl (kh4, 101, .inr (.inl mo))), (a0, .inr (1, [.ref a1, .ref a2, .ref a3, .int md]))] := hD
            obtain ⟨g_3, e_g_3⟩ : ∃ y, y = upd ds st.toNatClampNeg im := ⟨_, rfl⟩
            rw [← e_g_3] at hP hD
            refine lv_aload_n hx hb dX4_step_53 rfl (lv_at hl 0 rfl) ?_
            refine va_get (D := (dC, dI)) (ci := 5) (v := .ref h4) (C := RX4) (T := TX4) (N := 14) hx hb hts (by decide +kernel) hown hK hP 0 rfl rfl 3 (by decide) (hts (.fieldLink RX4 19 "CobolDebugger" "more" "[J") (by decide +kernel)) (fun _ h9 => h9) rfl dX4_step_54 ?_
            refine lv_iload_n hx hb dX4_step_57 rfl (lv_at hl 1 rfl) ?_
            refine lv_lload_n hx hb dX4_step_58 rfl (lv_at hl 3 rfl) ?_
            refine va_last hx hb hK hP hD hS 2 1 rfl rfl (i := st) hst9 dX4_step_59 (fun H locs hP hD hS => ?_)
            have hP : va_P (dC, dI) vwCl [(h0, .inr (5, [.ref h1, .ref h2, .ref h3, .ref h4, .int sn, .ref h5, .ref h6, .ref h7, .ref a0, .ref b0, .ref p0, .ref k0, .int sd, .int ft])), (h3, .inl (kh3, 101, .inl g_3)), (h4, .inl (kh4, 101, .inr (.inl (vp_updL mo st.toNatClampNeg v)))), (a0, .inr (1, [.ref a1, .ref a2, .ref a3, .int md]))] H := hP
            have hD : va_D A [(h0, .inr (5, [.ref h1, .ref h2, .ref h3, .ref h4, .int sn, .ref h5, .ref h6, .ref h7, .ref a0, .ref b0, .ref p0, .ref k0, .int sd, .int ft])), (h3, .inl (kh3, 101, .inl g_3)), (h4, .inl (kh4, 101, .inr (.inl (vp_updL mo st.toNatClampNeg v)))), (a0, .inr (1, [.ref a1, .ref a2, .ref a3, .int md]))] := hD
            obtain ⟨g_4, e_g_4⟩ : ∃ y, y = vp_updL mo st.toNatClampNeg v := ⟨_, rfl⟩
            rw [← e_g_4] at hP hD
            refine lv_iconst (v := 1) hx hb dX4_step_60 (by decide) ?_
            exact W.iret (v := 1) hx hb hr (fun t ht hW => ⟨⟨1, (g_3, g_4), rfl, ⟨by unfold stepA; rw [if_neg hb9, if_neg (fun h => c_40 (w_37.mpr ((i_22 (Int32.not_lt.mp c_30)).mpr h)))], fun _ _ _ _ _ _ h => cf_step h (sp_ge (fun h => c_40 (w_37.mpr ((i_22 (Int32.not_lt.mp c_30)).mpr h)))) (by rw [i_lt] at c_21; exact c_21) e_g_3⟩, by rw [ht]; exact hP, hD⟩, hS.F ht⟩) hS.2.2 dX4_step_61
          · refine lv_bipush (v := (-4)) hx hb dX4_step_43 (by decide) ?_
            exact W.iret (v := (-4)) hx hb hr (fun t ht hW => ⟨⟨(-4), (ds, mo), rfl, ⟨by unfold stepA; rw [if_neg hb9, if_pos ((i_22 (Int32.not_lt.mp c_30)).mp (w_37.mp c_40))], fun _ _ _ _ _ _ h => h⟩, by rw [ht]; exact hP, hD⟩, hS.F ht⟩) hS.2.2 dX4_step_45
      · refine lv_bipush (v := (-2)) hx hb dX4_step_24 (by decide) ?_
        exact W.iret (v := (-2)) hx hb hr (fun t ht hW => ⟨⟨(-2), (ds, mo), rfl, ⟨by unfold stepA; rw [if_pos (Or.inr (Or.inr (Int32.not_lt.mp c_21)))], fun _ _ _ _ _ _ h => h⟩, by rw [ht]; exact hP, hD⟩, hS.F ht⟩) hS.2.2 dX4_step_26

set_option maxHeartbeats 4000000 in
set_option maxRecDepth 100000 in
theorem g_X4_stop (l : Launch) (dC : Nat → ClassId) (dI : Nat → Nat → Nat) (sz : Nat) (h0 h1 h2 h3 h4 h5 h6 h7 a0 b0 p0 k0 a1 a2 a3 b1 b2 b3 : Nat) (kb1 kb2 kb3 : ClassId) (kd of cd : Nat → Int32) (sn sd ft md sm : Int32) (kn : Int32) (oo : Int32) (co : Int32) (hm0 : 0 ≤ sm.toInt) : Met l yX4_stop wsX4_stop ({ frames := 1, cells := 0, slots := 0, locals := 23 }) (va_Pc [.ref h0, .int kn, .int oo, .int co] (fun U => U.heap.size = sz ∧ va_P (dC, dI) vwCl [(h0, .inr (5, [.ref h1, .ref h2, .ref h3, .ref h4, .int sn, .ref h5, .ref h6, .ref h7, .ref a0, .ref b0, .ref p0, .ref k0, .int sd, .int ft])), (a0, .inr (1, [.ref a1, .ref a2, .ref a3, .int md])), (b0, .inr (4, [.ref b1, .ref b2, .ref b3, .int sm])), (b1, .inl (kb1, 20, .inl kd)), (b2, .inl (kb2, 20, .inl of)), (b3, .inl (kb3, 20, .inl cd))] U.heap ∧ va_K (dC, dI) vwCl [(kb1, .int), (kb2, .int), (kb3, .int)] U ∧ va_D (fun _ => True) [(h0, .inr (5, [.ref h1, .ref h2, .ref h3, .ref h4, .int sn, .ref h5, .ref h6, .ref h7, .ref a0, .ref b0, .ref p0, .ref k0, .int sd, .int ft])), (a0, .inr (1, [.ref a1, .ref a2, .ref a3, .int md])), (b0, .inr (4, [.ref b1, .ref b2, .ref b3, .int sm])), (b1, .inl (kb1, 20, .inl kd)), (b2, .inl (kb2, 20, .inl of)), (b3, .inl (kb3, 20, .inl cd))] ∧ nW U)) (va_Qi (fun (r : Int32) (u : Int32 × (Nat → Int32) × (Nat → Int32) × (Nat → Int32)) => r = stopA md sm kn oo ∧ (stopOk md sm kn oo → (u.1) = sm + 1 ∧ (u.2.1) = upd kd sm.toNatClampNeg kn ∧ (u.2.2.1) = upd of sm.toNatClampNeg oo ∧ (u.2.2.2) = upd cd sm.toNatClampNeg co) ∧ (¬ stopOk md sm kn oo → (u.1) = sm ∧ (u.2.1) = kd ∧ (u.2.2.1) = of ∧ (u.2.2.2) = cd) ∧ (∀ pg ds fo ss, cfI sn md sm pg ds fo ss kd of → cfI sn md (u.1) pg ds fo ss (u.2.1) (u.2.2.1))) (fun (u : Int32 × (Nat → Int32) × (Nat → Int32) × (Nat → Int32)) (t : State) => va_P (dC, dI) vwCl [(h0, .inr (5, [.ref h1, .ref h2, .ref h3, .ref h4, .int sn, .ref h5, .ref h6, .ref h7, .ref a0, .ref b0, .ref p0, .ref k0, .int sd, .int ft])), (a0, .inr (1, [.ref a1, .ref a2, .ref a3, .int md])), (b0, .inr (4, [.ref b1, .ref b2, .ref b3, .int u.1])), (b1, .inl (kb1, 20, .inl u.2.1)), (b2, .inl (kb2, 20, .inl u.2.2.1)), (b3, .inl (kb3, 20, .inl u.2.2.2))] t.heap ∧ va_D (va_A [(h0, .inr (5, [.ref h1, .ref h2, .ref h3, .ref h4, .int sn, .ref h5, .ref h6, .ref h7, .ref a0, .ref b0, .ref p0, .ref k0, .int sd, .int ft])), (a0, .inr (1, [.ref a1, .ref a2, .ref a3, .int md])), (b0, .inr (4, [.ref b1, .ref b2, .ref b3, .int sm])), (b1, .inl (kb1, 20, .inl kd)), (b2, .inl (kb2, 20, .inl of)), (b3, .inl (kb3, 20, .inl cd))] sz) [(h0, .inr (5, [.ref h1, .ref h2, .ref h3, .ref h4, .int sn, .ref h5, .ref h6, .ref h7, .ref a0, .ref b0, .ref p0, .ref k0, .int sd, .int ft])), (a0, .inr (1, [.ref a1, .ref a2, .ref a3, .int md])), (b0, .inr (4, [.ref b1, .ref b2, .ref b3, .int u.1])), (b1, .inl (kb1, 20, .inl u.2.1)), (b2, .inl (kb2, 20, .inl u.2.2.1)), (b3, .inl (kb3, 20, .inl u.2.2.2))]) (va_A [(h0, .inr (5, [.ref h1, .ref h2, .ref h3, .ref h4, .int sn, .ref h5, .ref h6, .ref h7, .ref a0, .ref b0, .ref p0, .ref k0, .int sd, .int ft])), (a0, .inr (1, [.ref a1, .ref a2, .ref a3, .int md])), (b0, .inr (4, [.ref b1, .ref b2, .ref b3, .int sm])), (b1, .inl (kb1, 20, .inl kd)), (b2, .inl (kb2, 20, .inl of)), (b3, .inl (kb3, 20, .inl cd))] sz)) 0 0 (va_A [(h0, .inr (5, [.ref h1, .ref h2, .ref h3, .ref h4, .int sn, .ref h5, .ref h6, .ref h7, .ref a0, .ref b0, .ref p0, .ref k0, .int sd, .int ft])), (a0, .inr (1, [.ref a1, .ref a2, .ref a3, .int md])), (b0, .inr (4, [.ref b1, .ref b2, .ref b3, .int sm])), (b1, .inl (kb1, 20, .inl kd)), (b2, .inl (kb2, 20, .inl of)), (b3, .inl (kb3, 20, .inl cd))] sz) := by
  refine Met.ofW (cc := cX4_stop) (maxL := 4) (ret := (some .int)) (by decide) rfl ?_
  intro p e s m args below meth c s₁ B hml hv
  obtain ⟨rfl, hsz, hP, hK, hD0, hN⟩ := hv
  have hx := B.exec
  have hb := B.bytes
  have hr := B.returns
  have hts := atoms_spec (ws := wsX4_stop) B.pre
  have hown : s.vm.findClass RX4 = some m.cls := findClass_of_methodNamed B.named
  have hlocks := B.notSynchronized
  subst hsz
  have hD := hD0.self (sz := s.heap.size)
  generalize hAe : va_A [(h0, .inr (5, [.ref h1, .ref h2, .ref h3, .ref h4, .int sn, .ref h5, .ref h6, .ref h7, .ref a0, .ref b0, .ref p0, .ref k0, .int sd, .int ft])), (a0, .inr (1, [.ref a1, .ref a2, .ref a3, .int md])), (b0, .inr (4, [.ref b1, .ref b2, .ref b3, .int sm])), (b1, .inl (kb1, 20, .inl kd)), (b2, .inl (kb2, 20, .inl of)), (b3, .inl (kb3, 20, .inl cd))] s.heap.size = A at hD ⊢
  have hA : ∀ q : Nat, s.heap.size ≤ q → A q := fun q h => by rw [← hAe]; exact Or.inr h
  have hS : va_S A s.heap s.heap [] := va_S.rf
  have hl := lv_entry ([.ref h0, .int kn, .int oo, .int co]) (n := 4) (Nat.le_of_ble_eq_true rfl)
  rw [lg_entry_eq]
  generalize (lg_sl ([.ref h0, .int kn, .int oo, .int co]) ++ List.replicate (4 - (lg_sl ([.ref h0, .int kn, .int oo, .int co])).length) Slot.unset).toArray = ls at hl ⊢
  have hl : lv_has ls 4 [(0, .ref h0), (1, .int kn), (2, .int oo), (3, .int co)] := hl
  refine lv_iload_n hx hb dX4_stop_0 rfl (lv_at hl 1 rfl) ?_
  refine lv_if_lt (tgt := 9) hx hb dX4_stop_1 (by decide) (fun c_1 => ?_) (fun c_1 => ?_)
  · refine lv_bipush (v := (-4)) hx hb dX4_stop_9 (by decide) ?_
    exact W.iret (v := (-4)) hx hb hr (fun t ht hW => ⟨⟨(-4), (sm, kd, of, cd), rfl, ⟨by unfold stopA; rw [if_pos (Or.inl c_1)], fun h => absurd (Or.inl c_1) h.1, fun _ => ⟨rfl, rfl, rfl, rfl⟩, fun _ _ _ _ h => h⟩, by rw [ht]; exact hP, hD⟩, hS.F ht⟩) hS.2.2 dX4_stop_11
  · refine lv_iload_n hx hb dX4_stop_4 rfl (lv_at hl 1 rfl) ?_
    refine lv_iconst (v := 4) hx hb dX4_stop_5 (by decide) ?_
    refine lv_icmp_le (tgt := 12) hx hb dX4_stop_6 (by decide) (fun c_6 => ?_) (fun c_6 => ?_)
    · refine lv_iload_n hx hb dX4_stop_12 rfl (lv_at hl 1 rfl) ?_
      refine lv_iconst (v := 2) hx hb dX4_stop_13 (by decide) ?_
      refine lv_icmp_eq (tgt := 22) hx hb dX4_stop_14 (by decide) (fun c_14 => ?_) (fun c_14 => ?_)
      · refine lv_aload_n hx hb dX4_stop_22 rfl (lv_at hl 0 rfl) ?_
        refine va_get (D := (dC, dI)) (ci := 5) (v := .ref a0) (C := RX4) (T := TX4) (N := 14) hx hb hts (by decide +kernel) hown hK hP 0 rfl rfl 8 (by decide) (hts (.fieldLink RX4 35 "CobolDebugger" "items" "LCobolDebugger$Items;") (by decide +kernel)) (fun _ h9 => h9) rfl dX4_stop_23 ?_
        refine lv_iload_n hx hb dX4_stop_26 rfl (lv_at hl 2 rfl) ?_
        have hPc := hP.sub (ws' := [(a0, .inr (1, [.ref a1, .ref a2, .ref a3, .int md]))]) [1] rfl
        have hKc := hK.sub (tys' := []) [] rfl
        refine va_calli (va_runVN (C := RX0) (As := [.int oo]) (rest := []) ⟨hx, hb, hml, hown, hts⟩ (c_X0_has l dC dI a0 a1 a2 a3 md oo) ⟨va_cnB 1 hts gX4_stop_X0_has_n86 rfl rfl rfl (nwm hN (RX4, 86, yX0_has, RX4) (by decide +kernel)) (hts (.initialized RX0) (by decide +kernel)) (by decide +kernel) ⟨Nat.le_of_ble_eq_true rfl, Nat.le_of_ble_eq_true rfl⟩, hts (.instanceMethod yX0_has) (by decide +kernel), hts (.selects RX0 yX0_has yX0_has) (by decide +kernel)⟩ ⟨fun a U g mk q => by obtain ⟨q0, qP, qK⟩ := q; exact ⟨q0, qP, va_K.moved (u := U) (U := U.calling g mk a) (Vm.Alike.refl U.vm) qK⟩, va_recv hKc hPc (ci := 1) (q0 := 0) rfl rfl, fun U hU hW => ⟨rfl, by rw [hU]; exact hPc, va_K.moved hW.alike hKc⟩⟩ rfl rfl hl.1 rfl (lv_room (Nat.le_of_ble_eq_true rfl)) dX4_stop_27 ⟨Nat.zero_le _, Nat.zero_le _⟩) hS (fun q _ h => h.elim) (fun q h => h.elim) (fun r_27 u t H1 locs ht hvm w_27 hB hz1 hk1 hS => ?_)
        try dsimp only at w_27
        have hP := rd_keep hP hk1
        clear hB hk1 hz1 ht hvm u t
        generalize H1 = H at hP hS ⊢
        have w_27 := z01 w_27
        refine lv_if_ne (tgt := 36) hx hb dX4_stop_30 (by decide) (fun c_30 => ?_) (fun c_30 => ?_)
        · refine lv_aload_n hx hb dX4_stop_36 rfl (lv_at hl 0 rfl) ?_
          refine va_get (D := (dC, dI)) (ci := 5) (v := .ref b0) (C := RX4) (T := TX4) (N := 14) hx hb hts (by decide +kernel) hown hK hP 0 rfl rfl 9 (by decide) (hts (.fieldLink RX4 42 "CobolDebugger" "stops" "LCobolDebugger$Stops;") (by decide +kernel)) (fun _ h9 => h9) rfl dX4_stop_37 ?_
          refine lv_iload_n hx hb dX4_stop_40 rfl (lv_at hl 1 rfl) ?_
          refine lv_iload_n hx hb dX4_stop_41 rfl (lv_at hl 2 rfl) ?_
          refine lv_iload_n hx hb dX4_stop_42 rfl (lv_at hl 3 rfl) ?_
          have hPc := hP.sub (ws' := [(b0, .inr (4, [.ref b1, .ref b2, .ref b3, .int sm])), (b1, .inl (kb1, 20, .inl kd)), (b2, .inl (kb2, 20, .inl of)), (b3, .inl (kb3, 20, .inl cd))]) [2, 3, 4, 5] rfl
          have hKc := hK.sub (tys' := [(kb1, .int), (kb2, .int), (kb3, .int)]) [0, 1, 2] rfl
          have hDc := hD.sub (ws' := [(b0, .inr (4, [.ref b1, .ref b2, .ref b3, .int sm])), (b1, .inl (kb1, 20, .inl kd)), (b2, .inl (kb2, 20, .inl of)), (b3, .inl (kb3, 20, .inl cd))]) [2, 3, 4, 5] (by decide) rfl
          have hFc := va_free (wc := [(b0, .inr (4, [.ref b1, .ref b2, .ref b3, .int sm])), (b1, .inl (kb1, 20, .inl kd)), (b2, .inl (kb2, 20, .inl of)), (b3, .inl (kb3, 20, .inl cd))]) hD hS hA [2, 3, 4, 5] rfl
          refine va_calli (va_runVN (C := RX3) (As := [.int kn, .int oo, .int co]) (rest := []) ⟨hx, hb, hml, hown, hts⟩ (c_X3_make l dC dI H.size b0 b1 b2 b3 kb1 kb2 kb3 kd of cd sm kn oo co (hm0)) ⟨va_cnB 3 hts gX4_stop_X3_make_n89 rfl rfl rfl (nwm hN (RX4, 89, yX3_make, RX4) (by decide +kernel)) (hts (.initialized RX3) (by decide +kernel)) (by decide +kernel) ⟨Nat.le_of_ble_eq_true rfl, Nat.le_of_ble_eq_true rfl⟩, hts (.instanceMethod yX3_make) (by decide +kernel), hts (.selects RX3 yX3_make yX3_make) (by decide +kernel)⟩ ⟨fun a U g mk q => by obtain ⟨q0, q1, qP, qK, qD⟩ := q; exact ⟨q0, q1, qP, va_K.moved (u := U) (U := U.calling g mk a) (Vm.Alike.refl U.vm) qK, qD⟩, va_recv hKc hPc (ci := 4) (q0 := 0) rfl rfl, fun U hU hW => ⟨rfl, by rw [hU], by rw [hU]; exact hPc, va_K.moved hW.alike hKc, hDc.weaken (fun _ _ _ _ => trivial)⟩⟩ rfl rfl hl.1 rfl (lv_room (Nat.le_of_ble_eq_true rfl)) dX4_stop_43 ⟨Nat.zero_le _, Nat.zero_le _⟩) hS (fun q _ h => hFc q h) (fun q h => hFc q h) (fun r_43 u t H1 locs ht hvm w_43 hB hz1 hk1 hS => ?_)
          try dsimp only at w_43
          obtain ⟨sm_43, kd_43, of_43, cd_43⟩ := u
          obtain ⟨hP1, hD1⟩ := hB
          rw [ht] at hP1
          obtain ⟨hP, hD⟩ := va_join (wr := [(h0, .inr (5, [.ref h1, .ref h2, .ref h3, .ref h4, .int sn, .ref h5, .ref h6, .ref h7, .ref a0, .ref b0, .ref p0, .ref k0, .int sd, .int ft])), (a0, .inr (1, [.ref a1, .ref a2, .ref a3, .int md]))]) (w1 := [(b0, .inr (4, [.ref b1, .ref b2, .ref b3, .int sm_43])), (b1, .inl (kb1, 20, .inl kd_43)), (b2, .inl (kb2, 20, .inl of_43)), (b3, .inl (kb3, 20, .inl cd_43))]) hP hD [2, 3, 4, 5] [0, 1] rfl rfl (by decide) (by decide) hk1 hFc hP1 hD1
          generalize H1 = H at hP hS ⊢
          have hP := hP.sub (ws' := [(h0, .inr (5, [.ref h1, .ref h2, .ref h3, .ref h4, .int sn, .ref h5, .ref h6, .ref h7, .ref a0, .ref b0, .ref p0, .ref k0, .int sd, .int ft])), (a0, .inr (1, [.ref a1, .ref a2, .ref a3, .int md])), (b0, .inr (4, [.ref b1, .ref b2, .ref b3, .int sm_43])), (b1, .inl (kb1, 20, .inl kd_43)), (b2, .inl (kb2, 20, .inl of_43)), (b3, .inl (kb3, 20, .inl cd_43))]) [0, 1, 2, 3, 4, 5] rfl
          have hD := hD.sub (ws' := [(h0, .inr (5, [.ref h1, .ref h2, .ref h3, .ref h4, .int sn, .ref h5, .ref h6, .ref h7, .ref a0, .ref b0, .ref p0, .ref k0, .int sd, .int ft])), (a0, .inr (1, [.ref a1, .ref a2, .ref a3, .int md])), (b0, .inr (4, [.ref b1, .ref b2, .ref b3, .int sm_43])), (b1, .inl (kb1, 20, .inl kd_43)), (b2, .inl (kb2, 20, .inl of_43)), (b3, .inl (kb3, 20, .inl cd_43))]) [0, 1, 2, 3, 4, 5] (by decide) rfl
          exact W.iret (v := r_43) hx hb hr (fun t ht hW => ⟨⟨r_43, (sm_43, kd_43, of_43, cd_43), rfl, ⟨by unfold stopA; rw [if_neg (fun h => h.elim c_1 (fun h => (Int32.not_lt.mpr c_6) h)), if_neg (fun h => c_30 (w_27.mpr h.2))]; by_cases q : sm < 20; rw [if_pos q]; exact (w_43.2 q).1; rw [if_neg q]; exact (w_43.1 q).1, fun h => (w_43.2 h.2.2).2, fun h => so_no (w_43.1 (fun q => h ⟨(fun h => h.elim c_1 (fun h => (Int32.not_lt.mpr c_6) h)), (fun h => c_30 (w_27.mpr h.2)), q⟩)).2, fun _ _ _ _ h => so_cf h w_43 (fun _ => ⟨i_n0 (fun h => c_30 (w_27.mpr (Or.inl h))), n_lt (fun h => c_30 (w_27.mpr (Or.inr h)))⟩)⟩, by rw [ht]; exact hP, hD⟩, hS.F ht⟩) hS.2.2 dX4_stop_46
        · refine lv_bipush (v := (-2)) hx hb dX4_stop_33 (by decide) ?_
          exact W.iret (v := (-2)) hx hb hr (fun t ht hW => ⟨⟨(-2), (sm, kd, of, cd), rfl, ⟨by unfold stopA; rw [if_neg (fun h => h.elim c_1 (fun h => (Int32.not_lt.mpr c_6) h)), if_pos ⟨(Or.inl c_14), w_27.mp c_30⟩], fun h => absurd ⟨(Or.inl c_14), w_27.mp c_30⟩ h.2.1, fun _ => ⟨rfl, rfl, rfl, rfl⟩, fun _ _ _ _ h => h⟩, by rw [ht]; exact hP, hD⟩, hS.F ht⟩) hS.2.2 dX4_stop_35
      · refine lv_iload_n hx hb dX4_stop_17 rfl (lv_at hl 1 rfl) ?_
        refine lv_iconst (v := 3) hx hb dX4_stop_18 (by decide) ?_
        refine lv_icmp_ne (tgt := 36) hx hb dX4_stop_19 (by decide) (fun c_19 => ?_) (fun c_19 => ?_)
        · refine lv_aload_n hx hb dX4_stop_36 rfl (lv_at hl 0 rfl) ?_
          refine va_get (D := (dC, dI)) (ci := 5) (v := .ref b0) (C := RX4) (T := TX4) (N := 14) hx hb hts (by decide +kernel) hown hK hP 0 rfl rfl 9 (by decide) (hts (.fieldLink RX4 42 "CobolDebugger" "stops" "LCobolDebugger$Stops;") (by decide +kernel)) (fun _ h9 => h9) rfl dX4_stop_37 ?_
          refine lv_iload_n hx hb dX4_stop_40 rfl (lv_at hl 1 rfl) ?_
          refine lv_iload_n hx hb dX4_stop_41 rfl (lv_at hl 2 rfl) ?_
          refine lv_iload_n hx hb dX4_stop_42 rfl (lv_at hl 3 rfl) ?_
          have hPc := hP.sub (ws' := [(b0, .inr (4, [.ref b1, .ref b2, .ref b3, .int sm])), (b1, .inl (kb1, 20, .inl kd)), (b2, .inl (kb2, 20, .inl of)), (b3, .inl (kb3, 20, .inl cd))]) [2, 3, 4, 5] rfl
          have hKc := hK.sub (tys' := [(kb1, .int), (kb2, .int), (kb3, .int)]) [0, 1, 2] rfl
          have hDc := hD.sub (ws' := [(b0, .inr (4, [.ref b1, .ref b2, .ref b3, .int sm])), (b1, .inl (kb1, 20, .inl kd)), (b2, .inl (kb2, 20, .inl of)), (b3, .inl (kb3, 20, .inl cd))]) [2, 3, 4, 5] (by decide) rfl
          have hFc := va_free (wc := [(b0, .inr (4, [.ref b1, .ref b2, .ref b3, .int sm])), (b1, .inl (kb1, 20, .inl kd)), (b2, .inl (kb2, 20, .inl of)), (b3, .inl (kb3, 20, .inl cd))]) hD hS hA [2, 3, 4, 5] rfl
          refine va_calli (va_runVN (C := RX3) (As := [.int kn, .int oo, .int co]) (rest := []) ⟨hx, hb, hml, hown, hts⟩ (c_X3_make l dC dI s.heap.size b0 b1 b2 b3 kb1 kb2 kb3 kd of cd sm kn oo co (hm0)) ⟨va_cnB 3 hts gX4_stop_X3_make_n89 rfl rfl rfl (nwm hN (RX4, 89, yX3_make, RX4) (by decide +kernel)) (hts (.initialized RX3) (by decide +kernel)) (by decide +kernel) ⟨Nat.le_of_ble_eq_true rfl, Nat.le_of_ble_eq_true rfl⟩, hts (.instanceMethod yX3_make) (by decide +kernel), hts (.selects RX3 yX3_make yX3_make) (by decide +kernel)⟩ ⟨fun a U g mk q => by obtain ⟨q0, q1, qP, qK, qD⟩ := q; exact ⟨q0, q1, qP, va_K.moved (u := U) (U := U.calling g mk a) (Vm.Alike.refl U.vm) qK, qD⟩, va_recv hKc hPc (ci := 4) (q0 := 0) rfl rfl, fun U hU hW => ⟨rfl, by rw [hU], by rw [hU]; exact hPc, va_K.moved hW.alike hKc, hDc.weaken (fun _ _ _ _ => trivial)⟩⟩ rfl rfl hl.1 rfl (lv_room (Nat.le_of_ble_eq_true rfl)) dX4_stop_43 ⟨Nat.zero_le _, Nat.zero_le _⟩) hS (fun q _ h => hFc q h) (fun q h => hFc q h) (fun r_43 u t H1 locs ht hvm w_43 hB hz1 hk1 hS => ?_)
          try dsimp only at w_43
          obtain ⟨sm_43, kd_43, of_43, cd_43⟩ := u
          obtain ⟨hP1, hD1⟩ := hB
          rw [ht] at hP1
          obtain ⟨hP, hD⟩ := va_join (wr := [(h0, .inr (5, [.ref h1, .ref h2, .ref h3, .ref h4, .int sn, .ref h5, .ref h6, .ref h7, .ref a0, .ref b0, .ref p0, .ref k0, .int sd, .int ft])), (a0, .inr (1, [.ref a1, .ref a2, .ref a3, .int md]))]) (w1 := [(b0, .inr (4, [.ref b1, .ref b2, .ref b3, .int sm_43])), (b1, .inl (kb1, 20, .inl kd_43)), (b2, .inl (kb2, 20, .inl of_43)), (b3, .inl (kb3, 20, .inl cd_43))]) hP hD [2, 3, 4, 5] [0, 1] rfl rfl (by decide) (by decide) hk1 hFc hP1 hD1
          generalize H1 = H at hP hS ⊢
          have hP := hP.sub (ws' := [(h0, .inr (5, [.ref h1, .ref h2, .ref h3, .ref h4, .int sn, .ref h5, .ref h6, .ref h7, .ref a0, .ref b0, .ref p0, .ref k0, .int sd, .int ft])), (a0, .inr (1, [.ref a1, .ref a2, .ref a3, .int md])), (b0, .inr (4, [.ref b1, .ref b2, .ref b3, .int sm_43])), (b1, .inl (kb1, 20, .inl kd_43)), (b2, .inl (kb2, 20, .inl of_43)), (b3, .inl (kb3, 20, .inl cd_43))]) [0, 1, 2, 3, 4, 5] rfl
          have hD := hD.sub (ws' := [(h0, .inr (5, [.ref h1, .ref h2, .ref h3, .ref h4, .int sn, .ref h5, .ref h6, .ref h7, .ref a0, .ref b0, .ref p0, .ref k0, .int sd, .int ft])), (a0, .inr (1, [.ref a1, .ref a2, .ref a3, .int md])), (b0, .inr (4, [.ref b1, .ref b2, .ref b3, .int sm_43])), (b1, .inl (kb1, 20, .inl kd_43)), (b2, .inl (kb2, 20, .inl of_43)), (b3, .inl (kb3, 20, .inl cd_43))]) [0, 1, 2, 3, 4, 5] (by decide) rfl
          exact W.iret (v := r_43) hx hb hr (fun t ht hW => ⟨⟨r_43, (sm_43, kd_43, of_43, cd_43), rfl, ⟨by unfold stopA; rw [if_neg (fun h => h.elim c_1 (fun h => (Int32.not_lt.mpr c_6) h)), if_neg (fun h => h.1.elim c_14 c_19)]; by_cases q : sm < 20; rw [if_pos q]; exact (w_43.2 q).1; rw [if_neg q]; exact (w_43.1 q).1, fun h => (w_43.2 h.2.2).2, fun h => so_no (w_43.1 (fun q => h ⟨(fun h => h.elim c_1 (fun h => (Int32.not_lt.mpr c_6) h)), (fun h => h.1.elim c_14 c_19), q⟩)).2, fun _ _ _ _ h => so_cf h w_43 (fun h => absurd h c_19)⟩, by rw [ht]; exact hP, hD⟩, hS.F ht⟩) hS.2.2 dX4_stop_46
        · refine lv_aload_n hx hb dX4_stop_22 rfl (lv_at hl 0 rfl) ?_
          refine va_get (D := (dC, dI)) (ci := 5) (v := .ref a0) (C := RX4) (T := TX4) (N := 14) hx hb hts (by decide +kernel) hown hK hP 0 rfl rfl 8 (by decide) (hts (.fieldLink RX4 35 "CobolDebugger" "items" "LCobolDebugger$Items;") (by decide +kernel)) (fun _ h9 => h9) rfl dX4_stop_23 ?_
          refine lv_iload_n hx hb dX4_stop_26 rfl (lv_at hl 2 rfl) ?_
          have hPc := hP.sub (ws' := [(a0, .inr (1, [.ref a1, .ref a2, .ref a3, .int md]))]) [1] rfl
          have hKc := hK.sub (tys' := []) [] rfl
          refine va_calli (va_runVN (C := RX0) (As := [.int oo]) (rest := []) ⟨hx, hb, hml, hown, hts⟩ (c_X0_has l dC dI a0 a1 a2 a3 md oo) ⟨va_cnB 1 hts gX4_stop_X0_has_n86 rfl rfl rfl (nwm hN (RX4, 86, yX0_has, RX4) (by decide +kernel)) (hts (.initialized RX0) (by decide +kernel)) (by decide +kernel) ⟨Nat.le_of_ble_eq_true rfl, Nat.le_of_ble_eq_true rfl⟩, hts (.instanceMethod yX0_has) (by decide +kernel), hts (.selects RX0 yX0_has yX0_has) (by decide +kernel)⟩ ⟨fun a U g mk q => by obtain ⟨q0, qP, qK⟩ := q; exact ⟨q0, qP, va_K.moved (u := U) (U := U.calling g mk a) (Vm.Alike.refl U.vm) qK⟩, va_recv hKc hPc (ci := 1) (q0 := 0) rfl rfl, fun U hU hW => ⟨rfl, by rw [hU]; exact hPc, va_K.moved hW.alike hKc⟩⟩ rfl rfl hl.1 rfl (lv_room (Nat.le_of_ble_eq_true rfl)) dX4_stop_27 ⟨Nat.zero_le _, Nat.zero_le _⟩) hS (fun q _ h => h.elim) (fun q h => h.elim) (fun r_27 u t H1 locs ht hvm w_27 hB hz1 hk1 hS => ?_)
          try dsimp only at w_27
          have hP := rd_keep hP hk1
          clear hB hk1 hz1 ht hvm u t
          generalize H1 = H at hP hS ⊢
          have w_27 := z01 w_27
          refine lv_if_ne (tgt := 36) hx hb dX4_stop_30 (by decide) (fun c_30 => ?_) (fun c_30 => ?_)
          · refine lv_aload_n hx hb dX4_stop_36 rfl (lv_at hl 0 rfl) ?_
            refine va_get (D := (dC, dI)) (ci := 5) (v := .ref b0) (C := RX4) (T := TX4) (N := 14) hx hb hts (by decide +kernel) hown hK hP 0 rfl rfl 9 (by decide) (hts (.fieldLink RX4 42 "CobolDebugger" "stops" "LCobolDebugger$Stops;") (by decide +kernel)) (fun _ h9 => h9) rfl dX4_stop_37 ?_
            refine lv_iload_n hx hb dX4_stop_40 rfl (lv_at hl 1 rfl) ?_
            refine lv_iload_n hx hb dX4_stop_41 rfl (lv_at hl 2 rfl) ?_
            refine lv_iload_n hx hb dX4_stop_42 rfl (lv_at hl 3 rfl) ?_
            have hPc := hP.sub (ws' := [(b0, .inr (4, [.ref b1, .ref b2, .ref b3, .int sm])), (b1, .inl (kb1, 20, .inl kd)), (b2, .inl (kb2, 20, .inl of)), (b3, .inl (kb3, 20, .inl cd))]) [2, 3, 4, 5] rfl
            have hKc := hK.sub (tys' := [(kb1, .int), (kb2, .int), (kb3, .int)]) [0, 1, 2] rfl
            have hDc := hD.sub (ws' := [(b0, .inr (4, [.ref b1, .ref b2, .ref b3, .int sm])), (b1, .inl (kb1, 20, .inl kd)), (b2, .inl (kb2, 20, .inl of)), (b3, .inl (kb3, 20, .inl cd))]) [2, 3, 4, 5] (by decide) rfl
            have hFc := va_free (wc := [(b0, .inr (4, [.ref b1, .ref b2, .ref b3, .int sm])), (b1, .inl (kb1, 20, .inl kd)), (b2, .inl (kb2, 20, .inl of)), (b3, .inl (kb3, 20, .inl cd))]) hD hS hA [2, 3, 4, 5] rfl
            refine va_calli (va_runVN (C := RX3) (As := [.int kn, .int oo, .int co]) (rest := []) ⟨hx, hb, hml, hown, hts⟩ (c_X3_make l dC dI H.size b0 b1 b2 b3 kb1 kb2 kb3 kd of cd sm kn oo co (hm0)) ⟨va_cnB 3 hts gX4_stop_X3_make_n89 rfl rfl rfl (nwm hN (RX4, 89, yX3_make, RX4) (by decide +kernel)) (hts (.initialized RX3) (by decide +kernel)) (by decide +kernel) ⟨Nat.le_of_ble_eq_true rfl, Nat.le_of_ble_eq_true rfl⟩, hts (.instanceMethod yX3_make) (by decide +kernel), hts (.selects RX3 yX3_make yX3_make) (by decide +kernel)⟩ ⟨fun a U g mk q => by obtain ⟨q0, q1, qP, qK, qD⟩ := q; exact ⟨q0, q1, qP, va_K.moved (u := U) (U := U.calling g mk a) (Vm.Alike.refl U.vm) qK, qD⟩, va_recv hKc hPc (ci := 4) (q0 := 0) rfl rfl, fun U hU hW => ⟨rfl, by rw [hU], by rw [hU]; exact hPc, va_K.moved hW.alike hKc, hDc.weaken (fun _ _ _ _ => trivial)⟩⟩ rfl rfl hl.1 rfl (lv_room (Nat.le_of_ble_eq_true rfl)) dX4_stop_43 ⟨Nat.zero_le _, Nat.zero_le _⟩) hS (fun q _ h => hFc q h) (fun q h => hFc q h) (fun r_43 u t H1 locs ht hvm w_43 hB hz1 hk1 hS => ?_)
            try dsimp only at w_43
            obtain ⟨sm_43, kd_43, of_43, cd_43⟩ := u
            obtain ⟨hP1, hD1⟩ := hB
            rw [ht] at hP1
            obtain ⟨hP, hD⟩ := va_join (wr := [(h0, .inr (5, [.ref h1, .ref h2, .ref h3, .ref h4, .int sn, .ref h5, .ref h6, .ref h7, .ref a0, .ref b0, .ref p0, .ref k0, .int sd, .int ft])), (a0, .inr (1, [.ref a1, .ref a2, .ref a3, .int md]))]) (w1 := [(b0, .inr (4, [.ref b1, .ref b2, .ref b3, .int sm_43])), (b1, .inl (kb1, 20, .inl kd_43)), (b2, .inl (kb2, 20, .inl of_43)), (b3, .inl (kb3, 20, .inl cd_43))]) hP hD [2, 3, 4, 5] [0, 1] rfl rfl (by decide) (by decide) hk1 hFc hP1 hD1
            generalize H1 = H at hP hS ⊢
            have hP := hP.sub (ws' := [(h0, .inr (5, [.ref h1, .ref h2, .ref h3, .ref h4, .int sn, .ref h5, .ref h6, .ref h7, .ref a0, .ref b0, .ref p0, .ref k0, .int sd, .int ft])), (a0, .inr (1, [.ref a1, .ref a2, .ref a3, .int md])), (b0, .inr (4, [.ref b1, .ref b2, .ref b3, .int sm_43])), (b1, .inl (kb1, 20, .inl kd_43)), (b2, .inl (kb2, 20, .inl of_43)), (b3, .inl (kb3, 20, .inl cd_43))]) [0, 1, 2, 3, 4, 5] rfl
            have hD := hD.sub (ws' := [(h0, .inr (5, [.ref h1, .ref h2, .ref h3, .ref h4, .int sn, .ref h5, .ref h6, .ref h7, .ref a0, .ref b0, .ref p0, .ref k0, .int sd, .int ft])), (a0, .inr (1, [.ref a1, .ref a2, .ref a3, .int md])), (b0, .inr (4, [.ref b1, .ref b2, .ref b3, .int sm_43])), (b1, .inl (kb1, 20, .inl kd_43)), (b2, .inl (kb2, 20, .inl of_43)), (b3, .inl (kb3, 20, .inl cd_43))]) [0, 1, 2, 3, 4, 5] (by decide) rfl
            exact W.iret (v := r_43) hx hb hr (fun t ht hW => ⟨⟨r_43, (sm_43, kd_43, of_43, cd_43), rfl, ⟨by unfold stopA; rw [if_neg (fun h => h.elim c_1 (fun h => (Int32.not_lt.mpr c_6) h)), if_neg (fun h => c_30 (w_27.mpr h.2))]; by_cases q : sm < 20; rw [if_pos q]; exact (w_43.2 q).1; rw [if_neg q]; exact (w_43.1 q).1, fun h => (w_43.2 h.2.2).2, fun h => so_no (w_43.1 (fun q => h ⟨(fun h => h.elim c_1 (fun h => (Int32.not_lt.mpr c_6) h)), (fun h => c_30 (w_27.mpr h.2)), q⟩)).2, fun _ _ _ _ h => so_cf h w_43 (fun _ => ⟨i_n0 (fun h => c_30 (w_27.mpr (Or.inl h))), n_lt (fun h => c_30 (w_27.mpr (Or.inr h)))⟩)⟩, by rw [ht]; exact hP, hD⟩, hS.F ht⟩) hS.2.2 dX4_stop_46
          · refine lv_bipush (v := (-2)) hx hb dX4_stop_33 (by decide) ?_
            exact W.iret (v := (-2)) hx hb hr (fun t ht hW => ⟨⟨(-2), (sm, kd, of, cd), rfl, ⟨by unfold stopA; rw [if_neg (fun h => h.elim c_1 (fun h => (Int32.not_lt.mpr c_6) h)), if_pos ⟨(Or.inr c_19), w_27.mp c_30⟩], fun h => absurd ⟨(Or.inr c_19), w_27.mp c_30⟩ h.2.1, fun _ => ⟨rfl, rfl, rfl, rfl⟩, fun _ _ _ _ h => h⟩, by rw [ht]; exact hP, hD⟩, hS.F ht⟩) hS.2.2 dX4_stop_35
    · refine lv_bipush (v := (-4)) hx hb dX4_stop_9 (by decide) ?_
      exact W.iret (v := (-4)) hx hb hr (fun t ht hW => ⟨⟨(-4), (sm, kd, of, cd), rfl, ⟨by unfold stopA; rw [if_pos (Or.inr (Int32.not_le.mp c_6))], fun h => absurd (Or.inr (Int32.not_le.mp c_6)) h.1, fun _ => ⟨rfl, rfl, rfl, rfl⟩, fun _ _ _ _ h => h⟩, by rw [ht]; exact hP, hD⟩, hS.F ht⟩) hS.2.2 dX4_stop_11

set_option maxHeartbeats 4000000 in
set_option maxRecDepth 100000 in
theorem g_X4_change (l : Launch) (dC : Nat → ClassId) (dI : Nat → Nat → Nat) (tT : Nat) (sz : Nat) (h0 h1 h2 h3 h4 h5 h6 h7 a0 b0 p0 k0 a1 a2 a3 : Nat) (ka1 ka2 ka3 : ClassId) (us ss bs : Nat → Int32) (sn sd ft md : Int32) (im : Int32) (v : Int64) (hit : itI md ss) : Met l yX4_change wsX4_change ({ frames := 3, cells := 0, slots := 0, locals := 79 }) (va_Pc [.ref h0, .int im, .long v] (fun U => U.heap.size = sz ∧ va_P (dC, dI) vwCl [(h0, .inr (5, [.ref h1, .ref h2, .ref h3, .ref h4, .int sn, .ref h5, .ref h6, .ref h7, .ref a0, .ref b0, .ref p0, .ref k0, .int sd, .int ft])), (a0, .inr (1, [.ref a1, .ref a2, .ref a3, .int md])), (a1, .inl (ka1, 30, .inl us)), (a2, .inl (ka2, 30, .inl ss)), (a3, .inl (ka3, 270, .inl bs))] U.heap ∧ va_K (dC, dI) vwCl [(ka1, .int), (ka2, .int), (ka3, .byte)] U ∧ va_D (fun _ => True) [(h0, .inr (5, [.ref h1, .ref h2, .ref h3, .ref h4, .int sn, .ref h5, .ref h6, .ref h7, .ref a0, .ref b0, .ref p0, .ref k0, .int sd, .int ft])), (a0, .inr (1, [.ref a1, .ref a2, .ref a3, .int md])), (a1, .inl (ka1, 30, .inl us)), (a2, .inl (ka2, 30, .inl ss)), (a3, .inl (ka3, 270, .inl bs))] ∧ nW U ∧ tnW tT (va_A [(h0, .inr (5, [.ref h1, .ref h2, .ref h3, .ref h4, .int sn, .ref h5, .ref h6, .ref h7, .ref a0, .ref b0, .ref p0, .ref k0, .int sd, .int ft])), (a0, .inr (1, [.ref a1, .ref a2, .ref a3, .int md])), (a1, .inl (ka1, 30, .inl us)), (a2, .inl (ka2, 30, .inl ss)), (a3, .inl (ka3, 270, .inl bs))] sz) U)) (va_Qi (fun (r : Int32) (u : (Nat → Int32)) => r = changeA md us im ∧ (fitB bs → fitB (u))) (fun (u : (Nat → Int32)) (t : State) => va_P (dC, dI) vwCl [(h0, .inr (5, [.ref h1, .ref h2, .ref h3, .ref h4, .int sn, .ref h5, .ref h6, .ref h7, .ref a0, .ref b0, .ref p0, .ref k0, .int sd, .int ft])), (a0, .inr (1, [.ref a1, .ref a2, .ref a3, .int md])), (a1, .inl (ka1, 30, .inl us)), (a2, .inl (ka2, 30, .inl ss)), (a3, .inl (ka3, 270, .inl u))] t.heap ∧ va_D (va_A [(h0, .inr (5, [.ref h1, .ref h2, .ref h3, .ref h4, .int sn, .ref h5, .ref h6, .ref h7, .ref a0, .ref b0, .ref p0, .ref k0, .int sd, .int ft])), (a0, .inr (1, [.ref a1, .ref a2, .ref a3, .int md])), (a1, .inl (ka1, 30, .inl us)), (a2, .inl (ka2, 30, .inl ss)), (a3, .inl (ka3, 270, .inl bs))] sz) [(h0, .inr (5, [.ref h1, .ref h2, .ref h3, .ref h4, .int sn, .ref h5, .ref h6, .ref h7, .ref a0, .ref b0, .ref p0, .ref k0, .int sd, .int ft])), (a0, .inr (1, [.ref a1, .ref a2, .ref a3, .int md])), (a1, .inl (ka1, 30, .inl us)), (a2, .inl (ka2, 30, .inl ss)), (a3, .inl (ka3, 270, .inl u))]) (va_A [(h0, .inr (5, [.ref h1, .ref h2, .ref h3, .ref h4, .int sn, .ref h5, .ref h6, .ref h7, .ref a0, .ref b0, .ref p0, .ref k0, .int sd, .int ft])), (a0, .inr (1, [.ref a1, .ref a2, .ref a3, .int md])), (a1, .inl (ka1, 30, .inl us)), (a2, .inl (ka2, 30, .inl ss)), (a3, .inl (ka3, 270, .inl bs))] sz)) 0 0 (va_A [(h0, .inr (5, [.ref h1, .ref h2, .ref h3, .ref h4, .int sn, .ref h5, .ref h6, .ref h7, .ref a0, .ref b0, .ref p0, .ref k0, .int sd, .int ft])), (a0, .inr (1, [.ref a1, .ref a2, .ref a3, .int md])), (a1, .inl (ka1, 30, .inl us)), (a2, .inl (ka2, 30, .inl ss)), (a3, .inl (ka3, 270, .inl bs))] sz) := by
  refine Met.ofW (cc := cX4_change) (maxL := 4) (ret := (some .int)) (by decide) rfl ?_
  intro p e s m args below meth c s₁ B hml hv
  obtain ⟨rfl, hsz, hP, hK, hD0, hN, hT⟩ := hv
  have hx := B.exec
  have hb := B.bytes
  have hr := B.returns
  have hts := atoms_spec (ws := wsX4_change) B.pre
  have hown : s.vm.findClass RX4 = some m.cls := findClass_of_methodNamed B.named
  have hlocks := B.notSynchronized
  subst hsz
  have hD := hD0.self (sz := s.heap.size)
  generalize hAe : va_A [(h0, .inr (5, [.ref h1, .ref h2, .ref h3, .ref h4, .int sn, .ref h5, .ref h6, .ref h7, .ref a0, .ref b0, .ref p0, .ref k0, .int sd, .int ft])), (a0, .inr (1, [.ref a1, .ref a2, .ref a3, .int md])), (a1, .inl (ka1, 30, .inl us)), (a2, .inl (ka2, 30, .inl ss)), (a3, .inl (ka3, 270, .inl bs))] s.heap.size = A at hD hT ⊢
  have hA : ∀ q : Nat, s.heap.size ≤ q → A q := fun q h => by rw [← hAe]; exact Or.inr h
  have hS : va_S A s.heap s.heap [] := va_S.rf
  obtain ⟨hZ9, hT9⟩ := id hT
  have hl := lv_entry ([.ref h0, .int im, .long v]) (n := 4) (Nat.le_of_ble_eq_true rfl)
  rw [lg_entry_eq]
  generalize (lg_sl ([.ref h0, .int im, .long v]) ++ List.replicate (4 - (lg_sl ([.ref h0, .int im, .long v])).length) Slot.unset).toArray = ls at hl ⊢
  have hl : lv_has ls 4 [(0, .ref h0), (1, .int im), (2, .long v)] := hl
  refine lv_aload_n hx hb dX4_change_0 rfl (lv_at hl 0 rfl) ?_
  refine va_get (D := (dC, dI)) (ci := 5) (v := .ref a0) (C := RX4) (T := TX4) (N := 14) hx hb hts (by decide +kernel) hown hK hP 0 rfl rfl 8 (by decide) (hts (.fieldLink RX4 35 "CobolDebugger" "items" "LCobolDebugger$Items;") (by decide +kernel)) (fun _ h9 => h9) rfl dX4_change_1 ?_
  refine lv_iload_n hx hb dX4_change_4 rfl (lv_at hl 1 rfl) ?_
  have hPc := hP.sub (ws' := [(a0, .inr (1, [.ref a1, .ref a2, .ref a3, .int md]))]) [1] rfl
  have hKc := hK.sub (tys' := []) [] rfl
  refine va_calli (va_runVN (C := RX0) (As := [.int im]) (rest := []) ⟨hx, hb, hml, hown, hts⟩ (c_X0_has l dC dI a0 a1 a2 a3 md im) ⟨va_cnB 1 hts gX4_change_X0_has_n86 rfl rfl rfl (nwm hN (RX4, 86, yX0_has, RX4) (by decide +kernel)) (hts (.initialized RX0) (by decide +kernel)) (by decide +kernel) ⟨Nat.le_of_ble_eq_true rfl, Nat.le_of_ble_eq_true rfl⟩, hts (.instanceMethod yX0_has) (by decide +kernel), hts (.selects RX0 yX0_has yX0_has) (by decide +kernel)⟩ ⟨fun a U g mk q => by obtain ⟨q0, qP, qK⟩ := q; exact ⟨q0, qP, va_K.moved (u := U) (U := U.calling g mk a) (Vm.Alike.refl U.vm) qK⟩, va_recv hKc hPc (ci := 1) (q0 := 0) rfl rfl, fun U hU hW => ⟨rfl, by rw [hU]; exact hPc, va_K.moved hW.alike hKc⟩⟩ rfl rfl hl.1 rfl (lv_room (Nat.le_of_ble_eq_true rfl)) dX4_change_5 ⟨Nat.zero_le _, Nat.zero_le _⟩) hS (fun q _ h => h.elim) (fun q h => h.elim) (fun r_5 u t H1 locs ht hvm w_5 hB hz1 hk1 hS => ?_)
  try dsimp only at w_5
  have hP := rd_keep hP hk1
  clear hB hk1 hz1 ht hvm u t
  generalize H1 = H at hP hS ⊢
  have w_5 := z01 w_5
  refine lv_if_ne (tgt := 14) hx hb dX4_change_8 (by decide) (fun c_8 => ?_) (fun c_8 => ?_)
  · have hq0 := i_n0 (fun h => c_8 (w_5.mpr (Or.inl h)))
    have hq1 := n_lt (fun h => c_8 (w_5.mpr (Or.inr h)))
    have him : vp_in im 30 := it_in hit hq0 hq1
    have hsz := it_s hit hq0 hq1
    refine lv_aload_n hx hb dX4_change_14 rfl (lv_at hl 0 rfl) ?_
    refine va_get (D := (dC, dI)) (ci := 5) (v := .ref a0) (C := RX4) (T := TX4) (N := 14) hx hb hts (by decide +kernel) hown hK hP 0 rfl rfl 8 (by decide) (hts (.fieldLink RX4 35 "CobolDebugger" "items" "LCobolDebugger$Items;") (by decide +kernel)) (fun _ h9 => h9) rfl dX4_change_15 ?_
    refine lv_iload_n hx hb dX4_change_18 rfl (lv_at hl 1 rfl) ?_
    have hPc := hP.sub (ws' := [(a0, .inr (1, [.ref a1, .ref a2, .ref a3, .int md])), (a1, .inl (ka1, 30, .inl us))]) [1, 2] rfl
    have hKc := hK.sub (tys' := [(ka1, .int)]) [0] rfl
    refine va_calli (va_runVN (C := RX0) (As := [.int im]) (rest := []) ⟨hx, hb, hml, hown, hts⟩ (c_X0_isConstant l dC dI a0 a1 a2 a3 ka1 us md im (him)) ⟨va_cnB 1 hts gX4_change_X0_isConstant_n122 rfl rfl rfl (nwm hN (RX4, 122, yX0_isConstant, RX4) (by decide +kernel)) (hts (.initialized RX0) (by decide +kernel)) (by decide +kernel) ⟨Nat.le_of_ble_eq_true rfl, Nat.le_of_ble_eq_true rfl⟩, hts (.instanceMethod yX0_isConstant) (by decide +kernel), hts (.selects RX0 yX0_isConstant yX0_isConstant) (by decide +kernel)⟩ ⟨fun a U g mk q => by obtain ⟨q0, qP, qK⟩ := q; exact ⟨q0, qP, va_K.moved (u := U) (U := U.calling g mk a) (Vm.Alike.refl U.vm) qK⟩, va_recv hKc hPc (ci := 1) (q0 := 0) rfl rfl, fun U hU hW => ⟨rfl, by rw [hU]; exact hPc, va_K.moved hW.alike hKc⟩⟩ rfl rfl hl.1 rfl (lv_room (Nat.le_of_ble_eq_true rfl)) dX4_change_19 ⟨Nat.zero_le _, Nat.zero_le _⟩) hS (fun q _ h => h.elim) (fun q h => h.elim) (fun r_19 u t H1 locs ht hvm w_19 hB hz1 hk1 hS => ?_)
    try dsimp only at w_19
    have hP := rd_keep hP hk1
    clear hB hk1 hz1 ht hvm u t
    generalize H1 = H at hP hS ⊢
    have w_19 := o01 w_19
    refine lv_if_eq (tgt := 27) hx hb dX4_change_22 (by decide) (fun c_22 => ?_) (fun c_22 => ?_)
    · refine lv_aload_n hx hb dX4_change_27 rfl (lv_at hl 0 rfl) ?_
      refine va_get (D := (dC, dI)) (ci := 5) (v := .ref a0) (C := RX4) (T := TX4) (N := 14) hx hb hts (by decide +kernel) hown hK hP 0 rfl rfl 8 (by decide) (hts (.fieldLink RX4 35 "CobolDebugger" "items" "LCobolDebugger$Items;") (by decide +kernel)) (fun _ h9 => h9) rfl dX4_change_28 ?_
      refine lv_iload_n hx hb dX4_change_31 rfl (lv_at hl 1 rfl) ?_
      refine lv_lload_n hx hb dX4_change_32 rfl (lv_at hl 2 rfl) ?_
      have hPc := hP.sub (ws' := [(a0, .inr (1, [.ref a1, .ref a2, .ref a3, .int md])), (a1, .inl (ka1, 30, .inl us)), (a2, .inl (ka2, 30, .inl ss)), (a3, .inl (ka3, 270, .inl bs))]) [1, 2, 3, 4] rfl
      have hKc := hK.sub (tys' := [(ka1, .int), (ka2, .int), (ka3, .byte)]) [0, 1, 2] rfl
      have hDc := hD.sub (ws' := [(a0, .inr (1, [.ref a1, .ref a2, .ref a3, .int md])), (a1, .inl (ka1, 30, .inl us)), (a2, .inl (ka2, 30, .inl ss)), (a3, .inl (ka3, 270, .inl bs))]) [1, 2, 3, 4] (by decide) rfl
      have hFc := va_free (wc := [(a0, .inr (1, [.ref a1, .ref a2, .ref a3, .int md])), (a1, .inl (ka1, 30, .inl us)), (a2, .inl (ka2, 30, .inl ss)), (a3, .inl (ka3, 270, .inl bs))]) hD hS hA [1, 2, 3, 4] rfl
      refine va_calli (va_runVN (C := RX0) (As := [.int im, .long v]) (rest := []) ⟨hx, hb, hml, hown, hts⟩ (c_X0_write l dC dI tT H.size a0 a1 a2 a3 ka1 ka2 ka3 us ss bs md im v (him) (hsz.1) (hsz.2)) ⟨va_cnB 2 hts gX4_change_X0_write_n125 rfl rfl rfl (nwm hN (RX4, 125, yX0_write, RX4) (by decide +kernel)) (hts (.initialized RX0) (by decide +kernel)) (by decide +kernel) ⟨Nat.le_of_ble_eq_true rfl, Nat.le_of_ble_eq_true rfl⟩, hts (.instanceMethod yX0_write) (by decide +kernel), hts (.selects RX0 yX0_write yX0_write) (by decide +kernel)⟩ ⟨fun a U g mk q => by obtain ⟨q0, q1, qP, qK, qD, qT⟩ := q; exact ⟨q0, q1, qP, va_K.moved (u := U) (U := U.calling g mk a) (Vm.Alike.refl U.vm) qK, qD, tn_same qT⟩, va_recv hKc hPc (ci := 1) (q0 := 0) rfl rfl, fun U hU hW => ⟨rfl, by rw [hU], by rw [hU]; exact hPc, va_K.moved hW.alike hKc, hDc.weaken (fun _ _ _ _ => trivial), tn_in hW hU hS hFc hT⟩⟩ rfl rfl hl.1 rfl (lv_room (Nat.le_of_ble_eq_true rfl)) dX4_change_33 ⟨Nat.zero_le _, Nat.zero_le _⟩) hS (fun q _ h => hFc q h) (fun q h => hFc q h) (fun r_33 u t H1 locs ht hvm w_33 hB hz1 hk1 hS => ?_)
      try dsimp only at w_33
      obtain ⟨bs_33, rfl⟩ : ∃ z, z = u := ⟨_, rfl⟩
      obtain ⟨hP1, hD1⟩ := hB
      rw [ht] at hP1
      obtain ⟨hP, hD⟩ := va_join (wr := [(h0, .inr (5, [.ref h1, .ref h2, .ref h3, .ref h4, .int sn, .ref h5, .ref h6, .ref h7, .ref a0, .ref b0, .ref p0, .ref k0, .int sd, .int ft]))]) (w1 := [(a0, .inr (1, [.ref a1, .ref a2, .ref a3, .int md])), (a1, .inl (ka1, 30, .inl us)), (a2, .inl (ka2, 30, .inl ss)), (a3, .inl (ka3, 270, .inl bs_33))]) hP hD [1, 2, 3, 4] [0] rfl rfl (by decide) (by decide) hk1 hFc hP1 hD1
      generalize H1 = H at hP hS ⊢
      have hP := hP.sub (ws' := [(h0, .inr (5, [.ref h1, .ref h2, .ref h3, .ref h4, .int sn, .ref h5, .ref h6, .ref h7, .ref a0, .ref b0, .ref p0, .ref k0, .int sd, .int ft])), (a0, .inr (1, [.ref a1, .ref a2, .ref a3, .int md])), (a1, .inl (ka1, 30, .inl us)), (a2, .inl (ka2, 30, .inl ss)), (a3, .inl (ka3, 270, .inl bs_33))]) [0, 1, 2, 3, 4] rfl
      have hD := hD.sub (ws' := [(h0, .inr (5, [.ref h1, .ref h2, .ref h3, .ref h4, .int sn, .ref h5, .ref h6, .ref h7, .ref a0, .ref b0, .ref p0, .ref k0, .int sd, .int ft])), (a0, .inr (1, [.ref a1, .ref a2, .ref a3, .int md])), (a1, .inl (ka1, 30, .inl us)), (a2, .inl (ka2, 30, .inl ss)), (a3, .inl (ka3, 270, .inl bs_33))]) [0, 1, 2, 3, 4] (by decide) rfl
      refine lv_pop hx hb dX4_change_36 rfl ?_
      refine lv_iconst (v := 1) hx hb dX4_change_37 (by decide) ?_
      exact W.iret (v := 1) hx hb hr (fun t ht hW => ⟨⟨1, bs_33, rfl, ⟨by unfold changeA; rw [if_neg (fun h => c_8 (w_5.mpr h)), if_neg (w_19.mp c_22)], w_33.2⟩, by rw [ht]; exact hP, hD⟩, hS.F ht⟩) hS.2.2 dX4_change_38
    · refine lv_iconst (v := 0) hx hb dX4_change_25 (by decide) ?_
      exact W.iret (v := 0) hx hb hr (fun t ht hW => ⟨⟨0, bs, rfl, ⟨by unfold changeA; rw [if_neg (fun h => c_8 (w_5.mpr h)), if_pos (Classical.not_not.mp (fun h => c_22 (w_19.mpr h)))], id⟩, by rw [ht]; exact hP, hD⟩, hS.F ht⟩) hS.2.2 dX4_change_26
  · refine lv_bipush (v := (-2)) hx hb dX4_change_11 (by decide) ?_
    exact W.iret (v := (-2)) hx hb hr (fun t ht hW => ⟨⟨(-2), bs, rfl, ⟨by unfold changeA; rw [if_pos (w_5.mp c_8)], id⟩, by rw [ht]; exact hP, hD⟩, hS.F ht⟩) hS.2.2 dX4_change_13

set_option maxHeartbeats 4000000 in
set_option maxRecDepth 100000 in
theorem g_X4_poke (l : Launch) (dC : Nat → ClassId) (dI : Nat → Nat → Nat) (sz : Nat) (h0 h1 h2 h3 h4 h5 h6 h7 a0 b0 p0 k0 a1 a2 a3 : Nat) (ka1 ka2 ka3 : ClassId) (us ss bs : Nat → Int32) (sn sd ft md : Int32) (im : Int32) (i : Int32) (b : Int32) (hit : itI md ss) : Met l yX4_poke wsX4_poke ({ frames := 1, cells := 0, slots := 0, locals := 23 }) (va_Pc [.ref h0, .int im, .int i, .int b] (fun U => U.heap.size = sz ∧ va_P (dC, dI) vwCl [(h0, .inr (5, [.ref h1, .ref h2, .ref h3, .ref h4, .int sn, .ref h5, .ref h6, .ref h7, .ref a0, .ref b0, .ref p0, .ref k0, .int sd, .int ft])), (a0, .inr (1, [.ref a1, .ref a2, .ref a3, .int md])), (a1, .inl (ka1, 30, .inl us)), (a2, .inl (ka2, 30, .inl ss)), (a3, .inl (ka3, 270, .inl bs))] U.heap ∧ va_K (dC, dI) vwCl [(ka1, .int), (ka2, .int), (ka3, .byte)] U ∧ va_D (fun _ => True) [(h0, .inr (5, [.ref h1, .ref h2, .ref h3, .ref h4, .int sn, .ref h5, .ref h6, .ref h7, .ref a0, .ref b0, .ref p0, .ref k0, .int sd, .int ft])), (a0, .inr (1, [.ref a1, .ref a2, .ref a3, .int md])), (a1, .inl (ka1, 30, .inl us)), (a2, .inl (ka2, 30, .inl ss)), (a3, .inl (ka3, 270, .inl bs))] ∧ nW U)) (va_Qi (fun (r : Int32) (u : (Nat → Int32)) => fitB bs → fitB (u)) (fun (u : (Nat → Int32)) (t : State) => va_P (dC, dI) vwCl [(h0, .inr (5, [.ref h1, .ref h2, .ref h3, .ref h4, .int sn, .ref h5, .ref h6, .ref h7, .ref a0, .ref b0, .ref p0, .ref k0, .int sd, .int ft])), (a0, .inr (1, [.ref a1, .ref a2, .ref a3, .int md])), (a1, .inl (ka1, 30, .inl us)), (a2, .inl (ka2, 30, .inl ss)), (a3, .inl (ka3, 270, .inl u))] t.heap ∧ va_D (va_A [(h0, .inr (5, [.ref h1, .ref h2, .ref h3, .ref h4, .int sn, .ref h5, .ref h6, .ref h7, .ref a0, .ref b0, .ref p0, .ref k0, .int sd, .int ft])), (a0, .inr (1, [.ref a1, .ref a2, .ref a3, .int md])), (a1, .inl (ka1, 30, .inl us)), (a2, .inl (ka2, 30, .inl ss)), (a3, .inl (ka3, 270, .inl bs))] sz) [(h0, .inr (5, [.ref h1, .ref h2, .ref h3, .ref h4, .int sn, .ref h5, .ref h6, .ref h7, .ref a0, .ref b0, .ref p0, .ref k0, .int sd, .int ft])), (a0, .inr (1, [.ref a1, .ref a2, .ref a3, .int md])), (a1, .inl (ka1, 30, .inl us)), (a2, .inl (ka2, 30, .inl ss)), (a3, .inl (ka3, 270, .inl u))]) (va_A [(h0, .inr (5, [.ref h1, .ref h2, .ref h3, .ref h4, .int sn, .ref h5, .ref h6, .ref h7, .ref a0, .ref b0, .ref p0, .ref k0, .int sd, .int ft])), (a0, .inr (1, [.ref a1, .ref a2, .ref a3, .int md])), (a1, .inl (ka1, 30, .inl us)), (a2, .inl (ka2, 30, .inl ss)), (a3, .inl (ka3, 270, .inl bs))] sz)) 0 0 (va_A [(h0, .inr (5, [.ref h1, .ref h2, .ref h3, .ref h4, .int sn, .ref h5, .ref h6, .ref h7, .ref a0, .ref b0, .ref p0, .ref k0, .int sd, .int ft])), (a0, .inr (1, [.ref a1, .ref a2, .ref a3, .int md])), (a1, .inl (ka1, 30, .inl us)), (a2, .inl (ka2, 30, .inl ss)), (a3, .inl (ka3, 270, .inl bs))] sz) := by
  refine Met.ofW (cc := cX4_poke) (maxL := 4) (ret := (some .int)) (by decide) rfl ?_
  intro p e s m args below meth c s₁ B hml hv
  obtain ⟨rfl, hsz, hP, hK, hD0, hN⟩ := hv
  have hx := B.exec
  have hb := B.bytes
  have hr := B.returns
  have hts := atoms_spec (ws := wsX4_poke) B.pre
  have hown : s.vm.findClass RX4 = some m.cls := findClass_of_methodNamed B.named
  have hlocks := B.notSynchronized
  subst hsz
  have hD := hD0.self (sz := s.heap.size)
  generalize hAe : va_A [(h0, .inr (5, [.ref h1, .ref h2, .ref h3, .ref h4, .int sn, .ref h5, .ref h6, .ref h7, .ref a0, .ref b0, .ref p0, .ref k0, .int sd, .int ft])), (a0, .inr (1, [.ref a1, .ref a2, .ref a3, .int md])), (a1, .inl (ka1, 30, .inl us)), (a2, .inl (ka2, 30, .inl ss)), (a3, .inl (ka3, 270, .inl bs))] s.heap.size = A at hD ⊢
  have hA : ∀ q : Nat, s.heap.size ≤ q → A q := fun q h => by rw [← hAe]; exact Or.inr h
  have hS : va_S A s.heap s.heap [] := va_S.rf
  have hl := lv_entry ([.ref h0, .int im, .int i, .int b]) (n := 4) (Nat.le_of_ble_eq_true rfl)
  rw [lg_entry_eq]
  generalize (lg_sl ([.ref h0, .int im, .int i, .int b]) ++ List.replicate (4 - (lg_sl ([.ref h0, .int im, .int i, .int b])).length) Slot.unset).toArray = ls at hl ⊢
  have hl : lv_has ls 4 [(0, .ref h0), (1, .int im), (2, .int i), (3, .int b)] := hl
  refine lv_aload_n hx hb dX4_poke_0 rfl (lv_at hl 0 rfl) ?_
  refine va_get (D := (dC, dI)) (ci := 5) (v := .ref a0) (C := RX4) (T := TX4) (N := 14) hx hb hts (by decide +kernel) hown hK hP 0 rfl rfl 8 (by decide) (hts (.fieldLink RX4 35 "CobolDebugger" "items" "LCobolDebugger$Items;") (by decide +kernel)) (fun _ h9 => h9) rfl dX4_poke_1 ?_
  refine lv_iload_n hx hb dX4_poke_4 rfl (lv_at hl 1 rfl) ?_
  have hPc := hP.sub (ws' := [(a0, .inr (1, [.ref a1, .ref a2, .ref a3, .int md]))]) [1] rfl
  have hKc := hK.sub (tys' := []) [] rfl
  refine va_calli (va_runVN (C := RX0) (As := [.int im]) (rest := []) ⟨hx, hb, hml, hown, hts⟩ (c_X0_has l dC dI a0 a1 a2 a3 md im) ⟨va_cnB 1 hts gX4_poke_X0_has_n86 rfl rfl rfl (nwm hN (RX4, 86, yX0_has, RX4) (by decide +kernel)) (hts (.initialized RX0) (by decide +kernel)) (by decide +kernel) ⟨Nat.le_of_ble_eq_true rfl, Nat.le_of_ble_eq_true rfl⟩, hts (.instanceMethod yX0_has) (by decide +kernel), hts (.selects RX0 yX0_has yX0_has) (by decide +kernel)⟩ ⟨fun a U g mk q => by obtain ⟨q0, qP, qK⟩ := q; exact ⟨q0, qP, va_K.moved (u := U) (U := U.calling g mk a) (Vm.Alike.refl U.vm) qK⟩, va_recv hKc hPc (ci := 1) (q0 := 0) rfl rfl, fun U hU hW => ⟨rfl, by rw [hU]; exact hPc, va_K.moved hW.alike hKc⟩⟩ rfl rfl hl.1 rfl (lv_room (Nat.le_of_ble_eq_true rfl)) dX4_poke_5 ⟨Nat.zero_le _, Nat.zero_le _⟩) hS (fun q _ h => h.elim) (fun q h => h.elim) (fun r_5 u t H1 locs ht hvm w_5 hB hz1 hk1 hS => ?_)
  try dsimp only at w_5
  have hP := rd_keep hP hk1
  clear hB hk1 hz1 ht hvm u t
  generalize H1 = H at hP hS ⊢
  have w_5 := z01 w_5
  refine lv_if_ne (tgt := 14) hx hb dX4_poke_8 (by decide) (fun c_8 => ?_) (fun c_8 => ?_)
  · have hq0 := i_n0 (fun h => c_8 (w_5.mpr (Or.inl h)))
    have hq1 := n_lt (fun h => c_8 (w_5.mpr (Or.inr h)))
    have him : vp_in im 30 := it_in hit hq0 hq1
    have hsz := it_s hit hq0 hq1
    refine lv_aload_n hx hb dX4_poke_14 rfl (lv_at hl 0 rfl) ?_
    refine va_get (D := (dC, dI)) (ci := 5) (v := .ref a0) (C := RX4) (T := TX4) (N := 14) hx hb hts (by decide +kernel) hown hK hP 0 rfl rfl 8 (by decide) (hts (.fieldLink RX4 35 "CobolDebugger" "items" "LCobolDebugger$Items;") (by decide +kernel)) (fun _ h9 => h9) rfl dX4_poke_15 ?_
    refine lv_iload_n hx hb dX4_poke_18 rfl (lv_at hl 1 rfl) ?_
    have hPc := hP.sub (ws' := [(a0, .inr (1, [.ref a1, .ref a2, .ref a3, .int md])), (a1, .inl (ka1, 30, .inl us))]) [1, 2] rfl
    have hKc := hK.sub (tys' := [(ka1, .int)]) [0] rfl
    refine va_calli (va_runVN (C := RX0) (As := [.int im]) (rest := []) ⟨hx, hb, hml, hown, hts⟩ (c_X0_isConstant l dC dI a0 a1 a2 a3 ka1 us md im (him)) ⟨va_cnB 1 hts gX4_poke_X0_isConstant_n122 rfl rfl rfl (nwm hN (RX4, 122, yX0_isConstant, RX4) (by decide +kernel)) (hts (.initialized RX0) (by decide +kernel)) (by decide +kernel) ⟨Nat.le_of_ble_eq_true rfl, Nat.le_of_ble_eq_true rfl⟩, hts (.instanceMethod yX0_isConstant) (by decide +kernel), hts (.selects RX0 yX0_isConstant yX0_isConstant) (by decide +kernel)⟩ ⟨fun a U g mk q => by obtain ⟨q0, qP, qK⟩ := q; exact ⟨q0, qP, va_K.moved (u := U) (U := U.calling g mk a) (Vm.Alike.refl U.vm) qK⟩, va_recv hKc hPc (ci := 1) (q0 := 0) rfl rfl, fun U hU hW => ⟨rfl, by rw [hU]; exact hPc, va_K.moved hW.alike hKc⟩⟩ rfl rfl hl.1 rfl (lv_room (Nat.le_of_ble_eq_true rfl)) dX4_poke_19 ⟨Nat.zero_le _, Nat.zero_le _⟩) hS (fun q _ h => h.elim) (fun q h => h.elim) (fun r_19 u t H1 locs ht hvm w_19 hB hz1 hk1 hS => ?_)
    try dsimp only at w_19
    have hP := rd_keep hP hk1
    clear hB hk1 hz1 ht hvm u t
    generalize H1 = H at hP hS ⊢
    have w_19 := o01 w_19
    refine lv_if_eq (tgt := 27) hx hb dX4_poke_22 (by decide) (fun c_22 => ?_) (fun c_22 => ?_)
    · refine lv_aload_n hx hb dX4_poke_27 rfl (lv_at hl 0 rfl) ?_
      refine va_get (D := (dC, dI)) (ci := 5) (v := .ref a0) (C := RX4) (T := TX4) (N := 14) hx hb hts (by decide +kernel) hown hK hP 0 rfl rfl 8 (by decide) (hts (.fieldLink RX4 35 "CobolDebugger" "items" "LCobolDebugger$Items;") (by decide +kernel)) (fun _ h9 => h9) rfl dX4_poke_28 ?_
      refine lv_iload_n hx hb dX4_poke_31 rfl (lv_at hl 1 rfl) ?_
      refine lv_iload_n hx hb dX4_poke_32 rfl (lv_at hl 2 rfl) ?_
      have hPc := hP.sub (ws' := [(a0, .inr (1, [.ref a1, .ref a2, .ref a3, .int md])), (a2, .inl (ka2, 30, .inl ss))]) [1, 3] rfl
      have hKc := hK.sub (tys' := [(ka2, .int)]) [1] rfl
      refine va_calli (va_runVN (C := RX0) (As := [.int im, .int i]) (rest := []) ⟨hx, hb, hml, hown, hts⟩ (c_X0_hasByte l dC dI a0 a1 a2 a3 ka2 ss md im i (him)) ⟨va_cnB 2 hts gX4_poke_X0_hasByte_n150 rfl rfl rfl (nwm hN (RX4, 150, yX0_hasByte, RX4) (by decide +kernel)) (hts (.initialized RX0) (by decide +kernel)) (by decide +kernel) ⟨Nat.le_of_ble_eq_true rfl, Nat.le_of_ble_eq_true rfl⟩, hts (.instanceMethod yX0_hasByte) (by decide +kernel), hts (.selects RX0 yX0_hasByte yX0_hasByte) (by decide +kernel)⟩ ⟨fun a U g mk q => by obtain ⟨q0, qP, qK⟩ := q; exact ⟨q0, qP, va_K.moved (u := U) (U := U.calling g mk a) (Vm.Alike.refl U.vm) qK⟩, va_recv hKc hPc (ci := 1) (q0 := 0) rfl rfl, fun U hU hW => ⟨rfl, by rw [hU]; exact hPc, va_K.moved hW.alike hKc⟩⟩ rfl rfl hl.1 rfl (lv_room (Nat.le_of_ble_eq_true rfl)) dX4_poke_33 ⟨Nat.zero_le _, Nat.zero_le _⟩) hS (fun q _ h => h.elim) (fun q h => h.elim) (fun r_33 u t H1 locs ht hvm w_33 hB hz1 hk1 hS => ?_)
      try dsimp only at w_33
      have hP := rd_keep hP hk1
      clear hB hk1 hz1 ht hvm u t
      generalize H1 = H at hP hS ⊢
      have w_33 := z01 w_33
      refine lv_if_ne (tgt := 42) hx hb dX4_poke_36 (by decide) (fun c_36 => ?_) (fun c_36 => ?_)
      · refine lv_aload_n hx hb dX4_poke_42 rfl (lv_at hl 0 rfl) ?_
        refine va_get (D := (dC, dI)) (ci := 5) (v := .ref a0) (C := RX4) (T := TX4) (N := 14) hx hb hts (by decide +kernel) hown hK hP 0 rfl rfl 8 (by decide) (hts (.fieldLink RX4 35 "CobolDebugger" "items" "LCobolDebugger$Items;") (by decide +kernel)) (fun _ h9 => h9) rfl dX4_poke_43 ?_
        refine lv_iload_n hx hb dX4_poke_46 rfl (lv_at hl 1 rfl) ?_
        refine lv_iload_n hx hb dX4_poke_47 rfl (lv_at hl 2 rfl) ?_
        refine lv_iload_n hx hb dX4_poke_48 rfl (lv_at hl 3 rfl) ?_
        have hPc := hP.sub (ws' := [(a0, .inr (1, [.ref a1, .ref a2, .ref a3, .int md])), (a3, .inl (ka3, 270, .inl bs))]) [1, 4] rfl
        have hKc := hK.sub (tys' := [(ka3, .byte)]) [2] rfl
        have hDc := hD.sub (ws' := [(a0, .inr (1, [.ref a1, .ref a2, .ref a3, .int md])), (a3, .inl (ka3, 270, .inl bs))]) [1, 4] (by decide) rfl
        have hFc := va_free (wc := [(a0, .inr (1, [.ref a1, .ref a2, .ref a3, .int md])), (a3, .inl (ka3, 270, .inl bs))]) hD hS hA [1, 4] rfl
        refine va_callv (va_runVN (C := RX0) (As := [.int im, .int i, .int b]) (rest := []) ⟨hx, hb, hml, hown, hts⟩ (c_X0_setByte l dC dI H.size a0 a1 a2 a3 ka3 bs md im i b (ix_9 him (i_n0 (fun h => c_36 (w_33.mpr (Or.inl h)))) (by have := n_lt (fun h => c_36 (w_33.mpr (Or.inr h))); omega))) ⟨va_cnB 3 hts gX4_poke_X0_setByte_n162 rfl rfl rfl (nwm hN (RX4, 162, yX0_setByte, RX4) (by decide +kernel)) (hts (.initialized RX0) (by decide +kernel)) (by decide +kernel) ⟨Nat.le_of_ble_eq_true rfl, Nat.le_of_ble_eq_true rfl⟩, hts (.instanceMethod yX0_setByte) (by decide +kernel), hts (.selects RX0 yX0_setByte yX0_setByte) (by decide +kernel)⟩ ⟨fun a U g mk q => by obtain ⟨q0, q1, qP, qK, qD⟩ := q; exact ⟨q0, q1, qP, va_K.moved (u := U) (U := U.calling g mk a) (Vm.Alike.refl U.vm) qK, qD⟩, va_recv hKc hPc (ci := 1) (q0 := 0) rfl rfl, fun U hU hW => ⟨rfl, by rw [hU], by rw [hU]; exact hPc, va_K.moved hW.alike hKc, hDc.weaken (fun _ _ _ _ => trivial)⟩⟩ rfl rfl hl.1 rfl (lv_room (Nat.le_of_ble_eq_true rfl)) dX4_poke_49 ⟨Nat.zero_le _, Nat.zero_le _⟩) hS (fun q _ h => hFc q h) (fun q h => hFc q h) (fun u t H1 locs ht hvm w_49 hB hz1 hk1 hS => ?_)
        try dsimp only at w_49
        obtain ⟨bs_49, rfl⟩ : ∃ z, z = u := ⟨_, rfl⟩
        obtain ⟨hP1, hD1⟩ := hB
        rw [ht] at hP1
        obtain ⟨hP, hD⟩ := va_join (wr := [(h0, .inr (5, [.ref h1, .ref h2, .ref h3, .ref h4, .int sn, .ref h5, .ref h6, .ref h7, .ref a0, .ref b0, .ref p0, .ref k0, .int sd, .int ft])), (a1, .inl (ka1, 30, .inl us)), (a2, .inl (ka2, 30, .inl ss))]) (w1 := [(a0, .inr (1, [.ref a1, .ref a2, .ref a3, .int md])), (a3, .inl (ka3, 270, .inl bs_49))]) hP hD [1, 4] [0, 2, 3] rfl rfl (by decide) (by decide) hk1 hFc hP1 hD1
        generalize H1 = H at hP hS ⊢
        have hP := hP.sub (ws' := [(h0, .inr (5, [.ref h1, .ref h2, .ref h3, .ref h4, .int sn, .ref h5, .ref h6, .ref h7, .ref a0, .ref b0, .ref p0, .ref k0, .int sd, .int ft])), (a0, .inr (1, [.ref a1, .ref a2, .ref a3, .int md])), (a1, .inl (ka1, 30, .inl us)), (a2, .inl (ka2, 30, .inl ss)), (a3, .inl (ka3, 270, .inl bs_49))]) [0, 3, 1, 2, 4] rfl
        have hD := hD.sub (ws' := [(h0, .inr (5, [.ref h1, .ref h2, .ref h3, .ref h4, .int sn, .ref h5, .ref h6, .ref h7, .ref a0, .ref b0, .ref p0, .ref k0, .int sd, .int ft])), (a0, .inr (1, [.ref a1, .ref a2, .ref a3, .int md])), (a1, .inl (ka1, 30, .inl us)), (a2, .inl (ka2, 30, .inl ss)), (a3, .inl (ka3, 270, .inl bs_49))]) [0, 3, 1, 2, 4] (by decide) rfl
        refine lv_iconst (v := 1) hx hb dX4_poke_52 (by decide) ?_
        exact W.iret (v := 1) hx hb hr (fun t ht hW => ⟨⟨1, bs_49, rfl, w_49, by rw [ht]; exact hP, hD⟩, hS.F ht⟩) hS.2.2 dX4_poke_53
      · refine lv_bipush (v := (-4)) hx hb dX4_poke_39 (by decide) ?_
        exact W.iret (v := (-4)) hx hb hr (fun t ht hW => ⟨⟨(-4), bs, rfl, id, by rw [ht]; exact hP, hD⟩, hS.F ht⟩) hS.2.2 dX4_poke_41
    · refine lv_iconst (v := 0) hx hb dX4_poke_25 (by decide) ?_
      exact W.iret (v := 0) hx hb hr (fun t ht hW => ⟨⟨0, bs, rfl, id, by rw [ht]; exact hP, hD⟩, hS.F ht⟩) hS.2.2 dX4_poke_26
  · refine lv_bipush (v := (-2)) hx hb dX4_poke_11 (by decide) ?_
    exact W.iret (v := (-2)) hx hb hr (fun t ht hW => ⟨⟨(-2), bs, rfl, id, by rw [ht]; exact hP, hD⟩, hS.F ht⟩) hS.2.2 dX4_poke_13
