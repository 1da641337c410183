set_option maxHeartbeats 4000000 in
set_option maxRecDepth 100000 in
theorem g_X5_statement (l : Launch) (dC : Nat → ClassId) (dI : Nat → Nat → Nat) (sz : Nat) (m0 m1 m2 m3 m4 m5 m6 m7 m8 m9 m10 m11 m12 m13 m14 m15 m16 m17 m18 m19 : Nat) (km1 km2 km3 : ClassId) (mpg mln mds : Nat → Int32) (ce ms mi mt ma mf mk mp : Int32) (pa : Int32) (li : Int32) (hs0 : 0 ≤ ms.toInt) (hs1 : ms.toInt ≤ 100) : Met l yX5_statement wsX5_statement ({ frames := 0, cells := 0, slots := 0, locals := 0 }) (va_Pc [.ref m0, .int pa, .int li] (fun U => U.heap.size = sz ∧ va_P (dC, dI) vwCl [(m0, .inr (6, [.int ce, .int ms, .int mi, .int mt, .int ma, .int mf, .int mk, .int mp, .ref m1, .ref m2, .ref m3, .ref m4, .ref m5, .ref m6, .ref m7, .ref m8, .ref m9, .ref m10, .ref m11, .ref m12, .ref m13, .ref m14, .ref m15, .ref m16, .ref m17, .ref m18, .ref m19])), (m1, .inl (km1, 102, .inl mpg)), (m2, .inl (km2, 102, .inl mln)), (m3, .inl (km3, 102, .inl mds))] U.heap ∧ va_K (dC, dI) vwCl [(km1, .int), (km2, .int), (km3, .int)] U ∧ va_D (fun _ => True) [(m0, .inr (6, [.int ce, .int ms, .int mi, .int mt, .int ma, .int mf, .int mk, .int mp, .ref m1, .ref m2, .ref m3, .ref m4, .ref m5, .ref m6, .ref m7, .ref m8, .ref m9, .ref m10, .ref m11, .ref m12, .ref m13, .ref m14, .ref m15, .ref m16, .ref m17, .ref m18, .ref m19])), (m1, .inl (km1, 102, .inl mpg)), (m2, .inl (km2, 102, .inl mln)), (m3, .inl (km3, 102, .inl mds))])) (va_Qi (fun (r : Int32) (u : Int32 × Int32 × Int32 × (Nat → Int32) × (Nat → Int32) × (Nat → Int32)) => r = stmtA ms pa li ∧ (u.2.1) = stmtN ms pa li ∧ (∀ mi mt mss mkd mof, mcI ms mi mt mpg mds mss mkd mof → mcI (u.2.1) mi mt (u.2.2.2.1) (u.2.2.2.2.2) mss mkd mof) ∧ ∀ mp mk mbs mpf mka mki mko mkp, mrI ms ma mp mk mbs mpf mka mki mko mkp → mrI (u.2.1) (u.2.2.1) mp mk mbs mpf mka mki mko mkp) (fun (u : Int32 × Int32 × Int32 × (Nat → Int32) × (Nat → Int32) × (Nat → Int32)) (t : State) => va_P (dC, dI) vwCl [(m0, .inr (6, [.int u.1, .int u.2.1, .int mi, .int mt, .int u.2.2.1, .int mf, .int mk, .int mp, .ref m1, .ref m2, .ref m3, .ref m4, .ref m5, .ref m6, .ref m7, .ref m8, .ref m9, .ref m10, .ref m11, .ref m12, .ref m13, .ref m14, .ref m15, .ref m16, .ref m17, .ref m18, .ref m19])), (m1, .inl (km1, 102, .inl u.2.2.2.1)), (m2, .inl (km2, 102, .inl u.2.2.2.2.1)), (m3, .inl (km3, 102, .inl u.2.2.2.2.2))] t.heap ∧ va_D (va_A [(m0, .inr (6, [.int ce, .int ms, .int mi, .int mt, .int ma, .int mf, .int mk, .int mp, .ref m1, .ref m2, .ref m3, .ref m4, .ref m5, .ref m6, .ref m7, .ref m8, .ref m9, .ref m10, .ref m11, .ref m12, .ref m13, .ref m14, .ref m15, .ref m16, .ref m17, .ref m18, .ref m19])), (m1, .inl (km1, 102, .inl mpg)), (m2, .inl (km2, 102, .inl mln)), (m3, .inl (km3, 102, .inl mds))] sz) [(m0, .inr (6, [.int u.1, .int u.2.1, .int mi, .int mt, .int u.2.2.1, .int mf, .int mk, .int mp, .ref m1, .ref m2, .ref m3, .ref m4, .ref m5, .ref m6, .ref m7, .ref m8, .ref m9, .ref m10, .ref m11, .ref m12, .ref m13, .ref m14, .ref m15, .ref m16, .ref m17, .ref m18, .ref m19])), (m1, .inl (km1, 102, .inl u.2.2.2.1)), (m2, .inl (km2, 102, .inl u.2.2.2.2.1)), (m3, .inl (km3, 102, .inl u.2.2.2.2.2))]) (va_A [(m0, .inr (6, [.int ce, .int ms, .int mi, .int mt, .int ma, .int mf, .int mk, .int mp, .ref m1, .ref m2, .ref m3, .ref m4, .ref m5, .ref m6, .ref m7, .ref m8, .ref m9, .ref m10, .ref m11, .ref m12, .ref m13, .ref m14, .ref m15, .ref m16, .ref m17, .ref m18, .ref m19])), (m1, .inl (km1, 102, .inl mpg)), (m2, .inl (km2, 102, .inl mln)), (m3, .inl (km3, 102, .inl mds))] sz)) 0 0 (va_A [(m0, .inr (6, [.int ce, .int ms, .int mi, .int mt, .int ma, .int mf, .int mk, .int mp, .ref m1, .ref m2, .ref m3, .ref m4, .ref m5, .ref m6, .ref m7, .ref m8, .ref m9, .ref m10, .ref m11, .ref m12, .ref m13, .ref m14, .ref m15, .ref m16, .ref m17, .ref m18, .ref m19])), (m1, .inl (km1, 102, .inl mpg)), (m2, .inl (km2, 102, .inl mln)), (m3, .inl (km3, 102, .inl mds))] sz) := by
  refine Met.ofW (cc := cX5_statement) (maxL := 3) (ret := (some .int)) (by decide) rfl ?_
  intro p e s m args below meth c s₁ B hml hv
  obtain ⟨rfl, hsz, hP, hK, hD0⟩ := hv
  have hx := B.exec
  have hb := B.bytes
  have hr := B.returns
  have hts := atoms_spec (ws := wsX5_statement) B.pre
  have hown : s.vm.findClass RX5 = some m.cls := findClass_of_methodNamed B.named
  have hlocks := B.notSynchronized
  subst hsz
  have hD := hD0.self (sz := s.heap.size)
  generalize hAe : va_A [(m0, .inr (6, [.int ce, .int ms, .int mi, .int mt, .int ma, .int mf, .int mk, .int mp, .ref m1, .ref m2, .ref m3, .ref m4, .ref m5, .ref m6, .ref m7, .ref m8, .ref m9, .ref m10, .ref m11, .ref m12, .ref m13, .ref m14, .ref m15, .ref m16, .ref m17, .ref m18, .ref m19])), (m1, .inl (km1, 102, .inl mpg)), (m2, .inl (km2, 102, .inl mln)), (m3, .inl (km3, 102, .inl mds))] s.heap.size = A at hD ⊢
  have hA : ∀ q : Nat, s.heap.size ≤ q → A q := fun q h => by rw [← hAe]; exact Or.inr h
  have hS : va_S A s.heap s.heap [] := va_S.rf
  have hl := lv_entry ([.ref m0, .int pa, .int li]) (n := 3) (Nat.le_of_ble_eq_true rfl)
  rw [lg_entry_eq]
  generalize (lg_sl ([.ref m0, .int pa, .int li]) ++ List.replicate (3 - (lg_sl ([.ref m0, .int pa, .int li])).length) Slot.unset).toArray = ls at hl ⊢
  have hl : lv_has ls 3 [(0, .ref m0), (1, .int pa), (2, .int li)] := hl
  refine lv_aload_n hx hb dX5_statement_0 rfl (lv_at hl 0 rfl) ?_
  refine lv_iconst (v := 0) hx hb dX5_statement_1 (by decide) ?_
  refine va_put (D := (dC, dI)) (ci := 6) (v := .int 0) (ty := .int) (C := RX5) (T := TX5) (N := 27) hx hb hts (by decide +kernel) tyX5 tyX5_ok nmX5 hown hK hP hD hS 0 rfl rfl 0 (by decide) (hts (.fieldLink RX5 69 "CobolDebuggerModel" "code" "I") (by decide +kernel)) (fun _ h9 => h9) rfl (by decide +kernel) rfl rfl (Nat.le_of_ble_eq_true rfl) dX5_statement_2 (fun H locs hP hD hS => ?_)
  have hP : va_P (dC, dI) vwCl [(m0, .inr (6, [.int 0, .int ms, .int mi, .int mt, .int ma, .int mf, .int mk, .int mp, .ref m1, .ref m2, .ref m3, .ref m4, .ref m5, .ref m6, .ref m7, .ref m8, .ref m9, .ref m10, .ref m11, .ref m12, .ref m13, .ref m14, .ref m15, .ref m16, .ref m17, .ref m18, .ref m19])), (m1, .inl (km1, 102, .inl mpg)), (m2, .inl (km2, 102, .inl mln)), (m3, .inl (km3, 102, .inl mds))] H := hP
  have hD : va_D A [(m0, .inr (6, [.int 0, .int ms, .int mi, .int mt, .int ma, .int mf, .int mk, .int mp, .ref m1, .ref m2, .ref m3, .ref m4, .ref m5, .ref m6, .ref m7, .ref m8, .ref m9, .ref m10, .ref m11, .ref m12, .ref m13, .ref m14, .ref m15, .ref m16, .ref m17, .ref m18, .ref m19])), (m1, .inl (km1, 102, .inl mpg)), (m2, .inl (km2, 102, .inl mln)), (m3, .inl (km3, 102, .inl mds))] := hD
  refine lv_iload_n hx hb dX5_statement_5 rfl (lv_at hl 1 rfl) ?_
  refine lv_if_lt (tgt := 27) hx hb dX5_statement_6 (by decide) (fun c_6 => ?_) (fun c_6 => ?_)
  · refine lv_bipush (v := (-4)) hx hb dX5_statement_27 (by decide) ?_
    exact W.iret (v := (-4)) hx hb hr (fun t ht hW => ⟨⟨(-4), (0, ms, ma, mpg, mln, mds), rfl, ⟨by unfold stmtA; rw [if_pos (Or.inl c_6)], by unfold stmtN; rw [if_pos (Or.inl c_6)], fun _ _ _ _ _ h => h, fun _ _ _ _ _ _ _ _ h => h⟩, by rw [ht]; exact hP, hD⟩, hS.F ht⟩) hS.2.2 dX5_statement_29
  · refine lv_iload_n hx hb dX5_statement_9 rfl (lv_at hl 1 rfl) ?_
    refine lv_bipush (v := 19) hx hb dX5_statement_10 (by decide) ?_
    refine lv_icmp_gt (tgt := 27) hx hb dX5_statement_12 (by decide) (fun c_12 => ?_) (fun c_12 => ?_)
    · refine lv_bipush (v := (-4)) hx hb dX5_statement_27 (by decide) ?_
      exact W.iret (v := (-4)) hx hb hr (fun t ht hW => ⟨⟨(-4), (0, ms, ma, mpg, mln, mds), rfl, ⟨by unfold stmtA; rw [if_pos (Or.inr (Or.inl c_12))], by unfold stmtN; rw [if_pos (Or.inr (Or.inl c_12))], fun _ _ _ _ _ h => h, fun _ _ _ _ _ _ _ _ h => h⟩, by rw [ht]; exact hP, hD⟩, hS.F ht⟩) hS.2.2 dX5_statement_29
    · refine lv_iload_n hx hb dX5_statement_15 rfl (lv_at hl 2 rfl) ?_
      refine lv_iconst (v := 1) hx hb dX5_statement_16 (by decide) ?_
      refine lv_icmp_lt (tgt := 27) hx hb dX5_statement_17 (by decide) (fun c_17 => ?_) (fun c_17 => ?_)
      · refine lv_bipush (v := (-4)) hx hb dX5_statement_27 (by decide) ?_
        exact W.iret (v := (-4)) hx hb hr (fun t ht hW => ⟨⟨(-4), (0, ms, ma, mpg, mln, mds), rfl, ⟨by unfold stmtA; rw [if_pos (Or.inr (Or.inr (Or.inl c_17)))], by unfold stmtN; rw [if_pos (Or.inr (Or.inr (Or.inl c_17)))], fun _ _ _ _ _ h => h, fun _ _ _ _ _ _ _ _ h => h⟩, by rw [ht]; exact hP, hD⟩, hS.F ht⟩) hS.2.2 dX5_statement_29
      · refine lv_iload_n hx hb dX5_statement_20 rfl (lv_at hl 2 rfl) ?_
        refine lv_sipush (v := 9999) hx hb dX5_statement_21 (by decide) ?_
        refine lv_icmp_le (tgt := 30) hx hb dX5_statement_24 (by decide) (fun c_24 => ?_) (fun c_24 => ?_)
        · have hbd : ¬ (pa < 0 ∨ 19 < pa ∨ li < 1 ∨ 9999 < li) := by rintro (h | h | h | h); exact c_6 h; exact c_12 h; exact c_17 h; exact (Int32.not_lt.mpr c_24) h
          refine lv_aload_n hx hb dX5_statement_30 rfl (lv_at hl 0 rfl) ?_
          refine va_get (D := (dC, dI)) (ci := 6) (v := .int ms) (C := RX5) (T := TX5) (N := 27) hx hb hts (by decide +kernel) hown hK hP 0 rfl rfl 1 (by decide) (hts (.fieldLink RX5 73 "CobolDebuggerModel" "statements" "I") (by decide +kernel)) (fun _ h9 => h9) rfl dX5_statement_31 ?_
          refine lv_bipush (v := 100) hx hb dX5_statement_34 (by decide) ?_
          refine lv_icmp_ne (tgt := 41) hx hb dX5_statement_36 (by decide) (fun c_36 => ?_) (fun c_36 => ?_)
          · have hlt : ms < 100 := i_c ms 100 100 (by decide) hs1 c_36
            refine lv_aload_n hx hb dX5_statement_41 rfl (lv_at hl 0 rfl) ?_
            refine lv_dup hx hb dX5_statement_42 rfl ?_
            refine va_get (D := (dC, dI)) (ci := 6) (v := .int ms) (C := RX5) (T := TX5) (N := 27) hx hb hts (by decide +kernel) hown hK hP 0 rfl rfl 1 (by decide) (hts (.fieldLink RX5 73 "CobolDebuggerModel" "statements" "I") (by decide +kernel)) (fun _ h9 => h9) rfl dX5_statement_43 ?_
            refine lv_iconst (v := 1) hx hb dX5_statement_46 (by decide) ?_
            refine lv_iadd hx hb dX5_statement_47 ?_
            refine lv_topi (fun v_1 e_v_1 => ?_)
            refine va_put (D := (dC, dI)) (ci := 6) (v := .int v_1) (ty := .int) (C := RX5) (T := TX5) (N := 27) hx hb hts (by decide +kernel) tyX5 tyX5_ok nmX5 hown hK hP hD hS 0 rfl rfl 1 (by decide) (hts (.fieldLink RX5 73 "CobolDebuggerModel" "statements" "I") (by decide +kernel)) (fun _ h9 => h9) rfl (by decide +kernel) rfl rfl (Nat.le_of_ble_eq_true rfl) dX5_statement_48 (fun H locs hP hD hS => ?_)
            have hP : va_P (dC, dI) vwCl [(m0, .inr (6, [.int 0, .int v_1, .int mi, .int mt, .int ma, .int mf, .int mk, .int mp, .ref m1, .ref m2, .ref m3, .ref m4, .ref m5, .ref m6, .ref m7, .ref m8, .ref m9, .ref m10, .ref m11, .ref m12, .ref m13, .ref m14, .ref m15, .ref m16, .ref m17, .ref m18, .ref m19])), (m1, .inl (km1, 102, .inl mpg)), (m2, .inl (km2, 102, .inl mln)), (m3, .inl (km3, 102, .inl mds))] H := hP
            have hD : va_D A [(m0, .inr (6, [.int 0, .int v_1, .int mi, .int mt, .int ma, .int mf, .int mk, .int mp, .ref m1, .ref m2, .ref m3, .ref m4, .ref m5, .ref m6, .ref m7, .ref m8, .ref m9, .ref m10, .ref m11, .ref m12, .ref m13, .ref m14, .ref m15, .ref m16, .ref m17, .ref m18, .ref m19])), (m1, .inl (km1, 102, .inl mpg)), (m2, .inl (km2, 102, .inl mln)), (m3, .inl (km3, 102, .inl mds))] := hD
            have hsn : vp_in v_1 102 := by rw [e_v_1]; exact ix_n1 100 hs0 hlt (by decide) (by decide)
            have hs9 : v_1.toInt = ms.toInt + 1 := by rw [e_v_1]; exact p1_100 hs0 hlt
            refine lv_aload_n hx hb dX5_statement_51 rfl (lv_at hl 0 rfl) ?_
            refine va_get (D := (dC, dI)) (ci := 6) (v := .ref m1) (C := RX5) (T := TX5) (N := 27) hx hb hts (by decide +kernel) hown hK hP 0 rfl rfl 8 (by decide) (hts (.fieldLink RX5 7 "CobolDebuggerModel" "paragraphs" "[I") (by decide +kernel)) (fun _ h9 => h9) rfl dX5_statement_52 ?_
            refine lv_aload_n hx hb dX5_statement_55 rfl (lv_at hl 0 rfl) ?_
            refine va_get (D := (dC, dI)) (ci := 6) (v := .int v_1) (C := RX5) (T := TX5) (N := 27) hx hb hts (by decide +kernel) hown hK hP 0 rfl rfl 1 (by decide) (hts (.fieldLink RX5 73 "CobolDebuggerModel" "statements" "I") (by decide +kernel)) (fun _ h9 => h9) rfl dX5_statement_56 ?_
            refine lv_iload_n hx hb dX5_statement_59 rfl (lv_at hl 1 rfl) ?_
            refine va_iast hx hb hK hP hD hS 1 0 rfl rfl (i := v_1) hsn dX5_statement_60 (fun H locs hP hD hS => ?_)
            have hP : va_P (dC, dI) vwCl [(m0, .inr (6, [.int 0, .int v_1, .int mi, .int mt, .int ma, .int mf, .int mk, .int mp, .ref m1, .ref m2, .ref m3, .ref m4, .ref m5, .ref m6, .ref m7, .ref m8, .ref m9, .ref m10, .ref m11, .ref m12, .ref m13, .ref m14, .ref m15, .ref m16, .ref m17, .ref m18, .ref m19])), (m1, .inl (km1, 102, .inl (upd mpg v_1.toNatClampNeg pa))), (m2, .inl (km2, 102, .inl mln)), (m3, .inl (km3, 102, .inl mds))] H := hP
            have hD : va_D A [(m0, .inr (6, [.int 0, .int v_1, .int mi, .int mt, .int ma, .int mf, .int mk, .int mp, .ref m1, .ref m2, .ref m3, .ref m4, .ref m5, .ref m6, .ref m7, .ref m8, .ref m9, .ref m10, .ref m11, .ref m12, .ref m13, .ref m14, .ref m15, .ref m16, .ref m17, .ref m18, .ref m19])), (m1, .inl (km1, 102, .inl (upd mpg v_1.toNatClampNeg pa))), (m2, .inl (km2, 102, .inl mln)), (m3, .inl (km3, 102, .inl mds))] := hD
            obtain ⟨g_2, e_g_2⟩ : ∃ y, y = upd mpg v_1.toNatClampNeg pa := ⟨_, rfl⟩
            rw [← e_g_2] at hP hD
            refine lv_aload_n hx hb dX5_statement_61 rfl (lv_at hl 0 rfl) ?_
            refine va_get (D := (dC, dI)) (ci := 6) (v := .ref m2) (C := RX5) (T := TX5) (N := 27) hx hb hts (by decide +kernel) hown hK hP 0 rfl rfl 9 (by decide) (hts (.fieldLink RX5 13 "CobolDebuggerModel" "lines" "[I") (by decide +kernel)) (fun _ h9 => h9) rfl dX5_statement_62 ?_
            refine lv_aload_n hx hb dX5_statement_65 rfl (lv_at hl 0 rfl) ?_
            refine va_get (D := (dC, dI)) (ci := 6) (v := .int v_1) (C := RX5) (T := TX5) (N := 27) hx hb hts (by decide +kernel) hown hK hP 0 rfl rfl 1 (by decide) (hts (.fieldLink RX5 73 "CobolDebuggerModel" "statements" "I") (by decide +kernel)) (fun _ h9 => h9) rfl dX5_statement_66 ?_
            refine lv_iload_n hx hb dX5_statement_69 rfl (lv_at hl 2 rfl) ?_
            refine va_iast hx hb hK hP hD hS 2 1 rfl rfl (i := v_1) hsn dX5_statement_70 (fun H locs hP hD hS => ?_)
            have hP : va_P (dC, dI) vwCl [(m0, .inr (6, [.int 0, .int v_1, .int mi, .int mt, .int ma, .int mf, .int mk, .int mp, .ref m1, .ref m2, .ref m3, .ref m4, .ref m5, .ref m6, .ref m7, .ref m8, .ref m9, .ref m10, .ref m11, .ref m12, .ref m13, .ref m14, .ref m15, .ref m16, .ref m17, .ref m18, .ref m19])), (m1, .inl (km1, 102, .inl g_2)), (m2, .inl (km2, 102, .inl (upd mln v_1.toNatClampNeg li))), (m3, .inl (km3, 102, .inl mds))] H := hP
            have hD : va_D A [(m0, .inr (6, [.int 0, .int v_1, .int mi, .int mt, .int ma, .int mf, .int mk, .int mp, .ref m1, .ref m2, .ref m3, .ref m4, .ref m5, .ref m6, .ref m7, .ref m8, .ref m9, .ref m10, .ref m11, .ref m12, .ref m13, .ref m14, .ref m15, .ref m16, .ref m17, .ref m18, .ref m19])), (m1, .inl (km1, 102, .inl g_2)), (m2, .inl (km2, 102, .inl (upd mln v_1.toNatClampNeg li))), (m3, .inl (km3, 102, .inl mds))] := hD
            obtain ⟨g_3, e_g_3⟩ : ∃ y, y = upd mln v_1.toNatClampNeg li := ⟨_, rfl⟩
            rw [← e_g_3] at hP hD
            refine lv_aload_n hx hb dX5_statement_71 rfl (lv_at hl 0 rfl) ?_
            refine va_get (D := (dC, dI)) (ci := 6) (v := .ref m3) (C := RX5) (T := TX5) (N := 27) hx hb hts (by decide +kernel) hown hK hP 0 rfl rfl 10 (by decide) (hts (.fieldLink RX5 16 "CobolDebuggerModel" "does" "[I") (by decide +kernel)) (fun _ h9 => h9) rfl dX5_statement_72 ?_
            refine lv_aload_n hx hb dX5_statement_75 rfl (lv_at hl 0 rfl) ?_
            refine va_get (D := (dC, dI)) (ci := 6) (v := .int v_1) (C := RX5) (T := TX5) (N := 27) hx hb hts (by decide +kernel) hown hK hP 0 rfl rfl 1 (by decide) (hts (.fieldLink RX5 73 "CobolDebuggerModel" "statements" "I") (by decide +kernel)) (fun _ h9 => h9) rfl dX5_statement_76 ?_
            refine lv_iconst (v := (-1)) hx hb dX5_statement_79 (by decide) ?_
            refine va_iast hx hb hK hP hD hS 3 2 rfl rfl (i := v_1) hsn dX5_statement_80 (fun H locs hP hD hS => ?_)
            have hP : va_P (dC, dI) vwCl [(m0, .inr (6, [.int 0, .int v_1, .int mi, .int mt, .int ma, .int mf, .int mk, .int mp, .ref m1, .ref m2, .ref m3, .ref m4, .ref m5, .ref m6, .ref m7, .ref m8, .ref m9, .ref m10, .ref m11, .ref m12, .ref m13, .ref m14, .ref m15, .ref m16, .ref m17, .ref m18, .ref m19])), (m1, .inl (km1, 102, .inl g_2)), (m2, .inl (km2, 102, .inl g_3)), (m3, .inl (km3, 102, .inl (upd mds v_1.toNatClampNeg (-1))))] H := hP
            have hD : va_D A [(m0, .inr (6, [.int 0, .int v_1, .int mi, .int mt, .int ma, .int mf, .int mk, .int mp, .ref m1, .ref m2, .ref m3, .ref m4, .ref m5, .ref m6, .ref m7, .ref m8, .ref m9, .ref m10, .ref m11, .ref m12, .ref m13, .ref m14, .ref m15, .ref m16, .ref m17, .ref m18, .ref m19])), (m1, .inl (km1, 102, .inl g_2)), (m2, .inl (km2, 102, .inl g_3)), (m3, .inl (km3, 102, .inl (upd mds v_1.toNatClampNeg (-1))))] := hD
            obtain ⟨g_4, e_g_4⟩ : ∃ y, y = upd mds v_1.toNatClampNeg (-1) := ⟨_, rfl⟩
            rw [← e_g_4] at hP hD
            refine lv_aload_n hx hb dX5_statement_81 rfl (lv_at hl 0 rfl) ?_
            refine va_get (D := (dC, dI)) (ci := 6) (v := .int v_1) (C := RX5) (T := TX5) (N := 27) hx hb hts (by decide +kernel) hown hK hP 0 rfl rfl 1 (by decide) (hts (.fieldLink RX5 73 "CobolDebuggerModel" "statements" "I") (by decide +kernel)) (fun _ h9 => h9) rfl dX5_statement_82 ?_
            refine lv_iconst (v := 1) hx hb dX5_statement_85 (by decide) ?_
            refine lv_icmp_ne (tgt := 94) hx hb dX5_statement_86 (by decide) (fun c_86 => ?_) (fun c_86 => ?_)
            · refine lv_aload_n hx hb dX5_statement_94 rfl (lv_at hl 0 rfl) ?_
              refine va_get (D := (dC, dI)) (ci := 6) (v := .int v_1) (C := RX5) (T := TX5) (N := 27) hx hb hts (by decide +kernel) hown hK hP 0 rfl rfl 1 (by decide) (hts (.fieldLink RX5 73 "CobolDebuggerModel" "statements" "I") (by decide +kernel)) (fun _ h9 => h9) rfl dX5_statement_95 ?_
              exact W.iret (v := v_1) hx hb hr (fun t ht hW => ⟨⟨v_1, (0, v_1, ma, g_2, g_3, g_4), rfl, ⟨by unfold stmtA; rw [if_neg hbd, if_pos hlt]; exact e_v_1, by unfold stmtN; rw [if_neg hbd, if_pos hlt]; exact e_v_1, fun _ _ _ _ _ h => mc_stmt h hlt (pa_20 c_6 c_12) e_v_1 e_g_2 e_g_4, fun _ _ _ _ _ _ _ _ hr => mr_ms hr (show ms.toInt ≤ v_1.toInt by omega) ⟨hr.1, (show ma.toInt ≤ v_1.toInt by have := hr.2.1; omega)⟩⟩, by rw [ht]; exact hP, hD⟩, hS.F ht⟩) hS.2.2 dX5_statement_98
            · refine lv_aload_n hx hb dX5_statement_89 rfl (lv_at hl 0 rfl) ?_
              refine lv_iconst (v := 1) hx hb dX5_statement_90 (by decide) ?_
              refine va_put (D := (dC, dI)) (ci := 6) (v := .int 1) (ty := .int) (C := RX5) (T := TX5) (N := 27) hx hb hts (by decide +kernel) tyX5 tyX5_ok nmX5 hown hK hP hD hS 0 rfl rfl 4 (by decide) (hts (.fieldLink RX5 79 "CobolDebuggerModel" "at" "I") (by decide +kernel)) (fun _ h9 => h9) rfl (by decide +kernel) rfl rfl (Nat.le_of_ble_eq_true rfl) dX5_statement_91 (fun H locs hP hD hS => ?_)
              have hP : va_P (dC, dI) vwCl [(m0, .inr (6, [.int 0, .int v_1, .int mi, .int mt, .int 1, .int mf, .int mk, .int mp, .ref m1, .ref m2, .ref m3, .ref m4, .ref m5, .ref m6, .ref m7, .ref m8, .ref m9, .ref m10, .ref m11, .ref m12, .ref m13, .ref m14, .ref m15, .ref m16, .ref m17, .ref m18, .ref m19])), (m1, .inl (km1, 102, .inl g_2)), (m2, .inl (km2, 102, .inl g_3)), (m3, .inl (km3, 102, .inl g_4))] H := hP
              have hD : va_D A [(m0, .inr (6, [.int 0, .int v_1, .int mi, .int mt, .int 1, .int mf, .int mk, .int mp, .ref m1, .ref m2, .ref m3, .ref m4, .ref m5, .ref m6, .ref m7, .ref m8, .ref m9, .ref m10, .ref m11, .ref m12, .ref m13, .ref m14, .ref m15, .ref m16, .ref m17, .ref m18, .ref m19])), (m1, .inl (km1, 102, .inl g_2)), (m2, .inl (km2, 102, .inl g_3)), (m3, .inl (km3, 102, .inl g_4))] := hD
              refine lv_aload_n hx hb dX5_statement_94 rfl (lv_at hl 0 rfl) ?_
              refine va_get (D := (dC, dI)) (ci := 6) (v := .int v_1) (C := RX5) (T := TX5) (N := 27) hx hb hts (by decide +kernel) hown hK hP 0 rfl rfl 1 (by decide) (hts (.fieldLink RX5 73 "CobolDebuggerModel" "statements" "I") (by decide +kernel)) (fun _ h9 => h9) rfl dX5_statement_95 ?_
              exact W.iret (v := v_1) hx hb hr (fun t ht hW => ⟨⟨v_1, (0, v_1, 1, g_2, g_3, g_4), rfl, ⟨by unfold stmtA; rw [if_neg hbd, if_pos hlt]; exact e_v_1, by unfold stmtN; rw [if_neg hbd, if_pos hlt]; exact e_v_1, fun _ _ _ _ _ h => mc_stmt h hlt (pa_20 c_6 c_12) e_v_1 e_g_2 e_g_4, fun _ _ _ _ _ _ _ _ hr => mr_ms hr (show ms.toInt ≤ v_1.toInt by omega) ⟨(show 0 ≤ (1 : Int32).toInt by decide), (show (1 : Int32).toInt ≤ v_1.toInt by rw [c_86]; exact Int.le_refl _)⟩⟩, by rw [ht]; exact hP, hD⟩, hS.F ht⟩) hS.2.2 dX5_statement_98
          · refine lv_iconst (v := (-1)) hx hb dX5_statement_39 (by decide) ?_
            exact W.iret (v := (-1)) hx hb hr (fun t ht hW => ⟨⟨(-1), (0, ms, ma, mpg, mln, mds), rfl, ⟨by unfold stmtA; rw [if_neg hbd, if_neg (by rw [c_36]; decide)], by unfold stmtN; rw [if_neg hbd, if_neg (by rw [c_36]; decide)], fun _ _ _ _ _ h => h, fun _ _ _ _ _ _ _ _ h => h⟩, by rw [ht]; exact hP, hD⟩, hS.F ht⟩) hS.2.2 dX5_statement_40
        · refine lv_bipush (v := (-4)) hx hb dX5_statement_27 (by decide) ?_
          exact W.iret (v := (-4)) hx hb hr (fun t ht hW => ⟨⟨(-4), (0, ms, ma, mpg, mln, mds), rfl, ⟨by unfold stmtA; rw [if_pos (Or.inr (Or.inr (Or.inr (Int32.not_le.mp c_24))))], by unfold stmtN; rw [if_pos (Or.inr (Or.inr (Or.inr (Int32.not_le.mp c_24))))], fun _ _ _ _ _ h => h, fun _ _ _ _ _ _ _ _ h => h⟩, by rw [ht]; exact hP, hD⟩, hS.F ht⟩) hS.2.2 dX5_statement_29

set_option maxHeartbeats 4000000 in
set_option maxRecDepth 100000 in
theorem g_X5_item (l : Launch) (dC : Nat → ClassId) (dI : Nat → Nat → Nat) (sz : Nat) (m0 m1 m2 m3 m4 m5 m6 m7 m8 m9 m10 m11 m12 m13 m14 m15 m16 m17 m18 m19 : Nat) (km5 km6 km7 : ClassId) (mus mss mbs : Nat → Int32) (ce ms mi mt ma mf mk mp : Int32) (ug : Int32) (sx : Int32) (hi0 : 0 ≤ mi.toInt) (hi1 : mi.toInt ≤ 30) : Met l yX5_item wsX5_item ({ frames := 0, cells := 0, slots := 0, locals := 0 }) (va_Pc [.ref m0, .int ug, .int sx] (fun U => U.heap.size = sz ∧ va_P (dC, dI) vwCl [(m0, .inr (6, [.int ce, .int ms, .int mi, .int mt, .int ma, .int mf, .int mk, .int mp, .ref m1, .ref m2, .ref m3, .ref m4, .ref m5, .ref m6, .ref m7, .ref m8, .ref m9, .ref m10, .ref m11, .ref m12, .ref m13, .ref m14, .ref m15, .ref m16, .ref m17, .ref m18, .ref m19])), (m5, .inl (km5, 30, .inl mus)), (m6, .inl (km6, 30, .inl mss)), (m7, .inl (km7, 270, .inl mbs))] U.heap ∧ va_K (dC, dI) vwCl [(km5, .int), (km6, .int), (km7, .byte)] U ∧ va_D (fun _ => True) [(m0, .inr (6, [.int ce, .int ms, .int mi, .int mt, .int ma, .int mf, .int mk, .int mp, .ref m1, .ref m2, .ref m3, .ref m4, .ref m5, .ref m6, .ref m7, .ref m8, .ref m9, .ref m10, .ref m11, .ref m12, .ref m13, .ref m14, .ref m15, .ref m16, .ref m17, .ref m18, .ref m19])), (m5, .inl (km5, 30, .inl mus)), (m6, .inl (km6, 30, .inl mss)), (m7, .inl (km7, 270, .inl mbs))])) (va_Qi (fun (r : Int32) (u : Int32 × Int32 × (Nat → Int32) × (Nat → Int32) × (Nat → Int32)) => r = itemA mi ug sx ∧ (itemOk ug sx → mi < 30 → (u.2.1) = mi + 1 ∧ (u.2.2.1) = upd mus mi.toNatClampNeg ug) ∧ (¬ (itemOk ug sx ∧ mi < 30) → (u.2.1) = mi ∧ (u.2.2.1) = mus) ∧ (∀ mt mpg mds mkd mof, mcI ms mi mt mpg mds mss mkd mof → mcI ms (u.2.1) mt mpg mds (u.2.2.2.1) mkd mof) ∧ (fitB mbs → fitB (u.2.2.2.2))) (fun (u : Int32 × Int32 × (Nat → Int32) × (Nat → Int32) × (Nat → Int32)) (t : State) => va_P (dC, dI) vwCl [(m0, .inr (6, [.int u.1, .int ms, .int u.2.1, .int mt, .int ma, .int mf, .int mk, .int mp, .ref m1, .ref m2, .ref m3, .ref m4, .ref m5, .ref m6, .ref m7, .ref m8, .ref m9, .ref m10, .ref m11, .ref m12, .ref m13, .ref m14, .ref m15, .ref m16, .ref m17, .ref m18, .ref m19])), (m5, .inl (km5, 30, .inl u.2.2.1)), (m6, .inl (km6, 30, .inl u.2.2.2.1)), (m7, .inl (km7, 270, .inl u.2.2.2.2))] t.heap ∧ va_D (va_A [(m0, .inr (6, [.int ce, .int ms, .int mi, .int mt, .int ma, .int mf, .int mk, .int mp, .ref m1, .ref m2, .ref m3, .ref m4, .ref m5, .ref m6, .ref m7, .ref m8, .ref m9, .ref m10, .ref m11, .ref m12, .ref m13, .ref m14, .ref m15, .ref m16, .ref m17, .ref m18, .ref m19])), (m5, .inl (km5, 30, .inl mus)), (m6, .inl (km6, 30, .inl mss)), (m7, .inl (km7, 270, .inl mbs))] sz) [(m0, .inr (6, [.int u.1, .int ms, .int u.2.1, .int mt, .int ma, .int mf, .int mk, .int mp, .ref m1, .ref m2, .ref m3, .ref m4, .ref m5, .ref m6, .ref m7, .ref m8, .ref m9, .ref m10, .ref m11, .ref m12, .ref m13, .ref m14, .ref m15, .ref m16, .ref m17, .ref m18, .ref m19])), (m5, .inl (km5, 30, .inl u.2.2.1)), (m6, .inl (km6, 30, .inl u.2.2.2.1)), (m7, .inl (km7, 270, .inl u.2.2.2.2))]) (va_A [(m0, .inr (6, [.int ce, .int ms, .int mi, .int mt, .int ma, .int mf, .int mk, .int mp, .ref m1, .ref m2, .ref m3, .ref m4, .ref m5, .ref m6, .ref m7, .ref m8, .ref m9, .ref m10, .ref m11, .ref m12, .ref m13, .ref m14, .ref m15, .ref m16, .ref m17, .ref m18, .ref m19])), (m5, .inl (km5, 30, .inl mus)), (m6, .inl (km6, 30, .inl mss)), (m7, .inl (km7, 270, .inl mbs))] sz)) 0 0 (va_A [(m0, .inr (6, [.int ce, .int ms, .int mi, .int mt, .int ma, .int mf, .int mk, .int mp, .ref m1, .ref m2, .ref m3, .ref m4, .ref m5, .ref m6, .ref m7, .ref m8, .ref m9, .ref m10, .ref m11, .ref m12, .ref m13, .ref m14, .ref m15, .ref m16, .ref m17, .ref m18, .ref m19])), (m5, .inl (km5, 30, .inl mus)), (m6, .inl (km6, 30, .inl mss)), (m7, .inl (km7, 270, .inl mbs))] sz) := by
  refine Met.ofW (cc := cX5_item) (maxL := 4) (ret := (some .int)) (by decide) rfl ?_
  intro p e s m args below meth c s₁ B hml hv
  obtain ⟨rfl, hsz, hP, hK, hD0⟩ := hv
  have hx := B.exec
  have hb := B.bytes
  have hr := B.returns
  have hts := atoms_spec (ws := wsX5_item) B.pre
  have hown : s.vm.findClass RX5 = some m.cls := findClass_of_methodNamed B.named
  have hlocks := B.notSynchronized
  subst hsz
  have hD := hD0.self (sz := s.heap.size)
  generalize hAe : va_A [(m0, .inr (6, [.int ce, .int ms, .int mi, .int mt, .int ma, .int mf, .int mk, .int mp, .ref m1, .ref m2, .ref m3, .ref m4, .ref m5, .ref m6, .ref m7, .ref m8, .ref m9, .ref m10, .ref m11, .ref m12, .ref m13, .ref m14, .ref m15, .ref m16, .ref m17, .ref m18, .ref m19])), (m5, .inl (km5, 30, .inl mus)), (m6, .inl (km6, 30, .inl mss)), (m7, .inl (km7, 270, .inl mbs))] s.heap.size = A at hD ⊢
  have hA : ∀ q : Nat, s.heap.size ≤ q → A q := fun q h => by rw [← hAe]; exact Or.inr h
  have hS : va_S A s.heap s.heap [] := va_S.rf
  have hl := lv_entry ([.ref m0, .int ug, .int sx]) (n := 4) (Nat.le_of_ble_eq_true rfl)
  rw [lg_entry_eq]
  generalize (lg_sl ([.ref m0, .int ug, .int sx]) ++ List.replicate (4 - (lg_sl ([.ref m0, .int ug, .int sx])).length) Slot.unset).toArray = ls at hl ⊢
  have hl : lv_has ls 4 [(0, .ref m0), (1, .int ug), (2, .int sx)] := hl
  refine lv_aload_n hx hb dX5_item_0 rfl (lv_at hl 0 rfl) ?_
  refine lv_iconst (v := 0) hx hb dX5_item_1 (by decide) ?_
  refine va_put (D := (dC, dI)) (ci := 6) (v := .int 0) (ty := .int) (C := RX5) (T := TX5) (N := 27) hx hb hts (by decide +kernel) tyX5 tyX5_ok nmX5 hown hK hP hD hS 0 rfl rfl 0 (by decide) (hts (.fieldLink RX5 69 "CobolDebuggerModel" "code" "I") (by decide +kernel)) (fun _ h9 => h9) rfl (by decide +kernel) rfl rfl (Nat.le_of_ble_eq_true rfl) dX5_item_2 (fun H locs hP hD hS => ?_)
  have hP : va_P (dC, dI) vwCl [(m0, .inr (6, [.int 0, .int ms, .int mi, .int mt, .int ma, .int mf, .int mk, .int mp, .ref m1, .ref m2, .ref m3, .ref m4, .ref m5, .ref m6, .ref m7, .ref m8, .ref m9, .ref m10, .ref m11, .ref m12, .ref m13, .ref m14, .ref m15, .ref m16, .ref m17, .ref m18, .ref m19])), (m5, .inl (km5, 30, .inl mus)), (m6, .inl (km6, 30, .inl mss)), (m7, .inl (km7, 270, .inl mbs))] H := hP
  have hD : va_D A [(m0, .inr (6, [.int 0, .int ms, .int mi, .int mt, .int ma, .int mf, .int mk, .int mp, .ref m1, .ref m2, .ref m3, .ref m4, .ref m5, .ref m6, .ref m7, .ref m8, .ref m9, .ref m10, .ref m11, .ref m12, .ref m13, .ref m14, .ref m15, .ref m16, .ref m17, .ref m18, .ref m19])), (m5, .inl (km5, 30, .inl mus)), (m6, .inl (km6, 30, .inl mss)), (m7, .inl (km7, 270, .inl mbs))] := hD
  refine lv_iload_n hx hb dX5_item_5 rfl (lv_at hl 1 rfl) ?_
  refine lv_if_lt (tgt := 34) hx hb dX5_item_6 (by decide) (fun c_6 => ?_) (fun c_6 => ?_)
  · refine lv_bipush (v := (-4)) hx hb dX5_item_34 (by decide) ?_
    exact W.iret (v := (-4)) hx hb hr (fun t ht hW => ⟨⟨(-4), (0, mi, mus, mss, mbs), rfl, ⟨by unfold itemA; rw [if_pos (Or.inl c_6)], fun h => absurd (Or.inl c_6) h, fun _ => ⟨rfl, rfl⟩, fun _ _ _ _ _ h => h, id⟩, by rw [ht]; exact hP, hD⟩, hS.F ht⟩) hS.2.2 dX5_item_36
  · refine lv_iload_n hx hb dX5_item_9 rfl (lv_at hl 1 rfl) ?_
    refine lv_iconst (v := 2) hx hb dX5_item_10 (by decide) ?_
    refine lv_icmp_gt (tgt := 34) hx hb dX5_item_11 (by decide) (fun c_11 => ?_) (fun c_11 => ?_)
    · refine lv_bipush (v := (-4)) hx hb dX5_item_34 (by decide) ?_
      exact W.iret (v := (-4)) hx hb hr (fun t ht hW => ⟨⟨(-4), (0, mi, mus, mss, mbs), rfl, ⟨by unfold itemA; rw [if_pos (Or.inr (Or.inl c_11))], fun h => absurd (Or.inr (Or.inl c_11)) h, fun _ => ⟨rfl, rfl⟩, fun _ _ _ _ _ h => h, id⟩, by rw [ht]; exact hP, hD⟩, hS.F ht⟩) hS.2.2 dX5_item_36
    · refine lv_iload_n hx hb dX5_item_14 rfl (lv_at hl 2 rfl) ?_
      refine lv_iconst (v := 1) hx hb dX5_item_15 (by decide) ?_
      refine lv_icmp_lt (tgt := 34) hx hb dX5_item_16 (by decide) (fun c_16 => ?_) (fun c_16 => ?_)
      · refine lv_bipush (v := (-4)) hx hb dX5_item_34 (by decide) ?_
        exact W.iret (v := (-4)) hx hb hr (fun t ht hW => ⟨⟨(-4), (0, mi, mus, mss, mbs), rfl, ⟨by unfold itemA; rw [if_pos (Or.inr (Or.inr (Or.inl c_16)))], fun h => absurd (Or.inr (Or.inr (Or.inl c_16))) h, fun _ => ⟨rfl, rfl⟩, fun _ _ _ _ _ h => h, id⟩, by rw [ht]; exact hP, hD⟩, hS.F ht⟩) hS.2.2 dX5_item_36
      · refine lv_iload_n hx hb dX5_item_19 rfl (lv_at hl 2 rfl) ?_
        refine lv_iload_n hx hb dX5_item_20 rfl (lv_at hl 1 rfl) ?_
        refine lv_iconst (v := 1) hx hb dX5_item_21 (by decide) ?_
        refine lv_icmp_ne (tgt := 29) hx hb dX5_item_22 (by decide) (fun c_22 => ?_) (fun c_22 => ?_)
        · refine lv_bipush (v := 9) hx hb dX5_item_29 (by decide) ?_
          refine lv_icmp_le (tgt := 37) hx hb dX5_item_31 (by decide) (fun c_31 => ?_) (fun c_31 => ?_)
          · have hbd : ¬ (ug < 0 ∨ 2 < ug ∨ sx < 1 ∨ (if ug = 1 then 4 else 9) < sx) := by rintro (h | h | h | h); exact c_6 h; exact c_11 h; exact c_16 h; rw [if_neg c_22] at h; exact (Int32.not_lt.mpr c_31) h
            refine lv_aload_n hx hb dX5_item_37 rfl (lv_at hl 0 rfl) ?_
            refine va_get (D := (dC, dI)) (ci := 6) (v := .int mi) (C := RX5) (T := TX5) (N := 27) hx hb hts (by decide +kernel) hown hK hP 0 rfl rfl 2 (by decide) (hts (.fieldLink RX5 76 "CobolDebuggerModel" "items" "I") (by decide +kernel)) (fun _ h9 => h9) rfl dX5_item_38 ?_
            refine lv_bipush (v := 30) hx hb dX5_item_41 (by decide) ?_
            refine lv_icmp_ne (tgt := 48) hx hb dX5_item_43 (by decide) (fun c_43 => ?_) (fun c_43 => ?_)
            · have hlt : mi < 30 := i_c mi 30 30 (by decide) hi1 c_43
              have him : vp_in mi 30 := ix_r hi0 (by rw [i_lt] at hlt; have e1 : (30 : Int32).toInt = 30 := (by decide); omega)
              have hz9 := sz_9 hbd
              refine lv_aload_n hx hb dX5_item_48 rfl (lv_at hl 0 rfl) ?_
              refine va_get (D := (dC, dI)) (ci := 6) (v := .ref m5) (C := RX5) (T := TX5) (N := 27) hx hb hts (by decide +kernel) hown hK hP 0 rfl rfl 12 (by decide) (hts (.fieldLink RX5 23 "CobolDebuggerModel" "usages" "[I") (by decide +kernel)) (fun _ h9 => h9) rfl dX5_item_49 ?_
              refine lv_aload_n hx hb dX5_item_52 rfl (lv_at hl 0 rfl) ?_
              refine va_get (D := (dC, dI)) (ci := 6) (v := .int mi) (C := RX5) (T := TX5) (N := 27) hx hb hts (by decide +kernel) hown hK hP 0 rfl rfl 2 (by decide) (hts (.fieldLink RX5 76 "CobolDebuggerModel" "items" "I") (by decide +kernel)) (fun _ h9 => h9) rfl dX5_item_53 ?_
              refine lv_iload_n hx hb dX5_item_56 rfl (lv_at hl 1 rfl) ?_
              refine va_iast hx hb hK hP hD hS 1 0 rfl rfl (i := mi) him dX5_item_57 (fun H locs hP hD hS => ?_)
              have hP : va_P (dC, dI) vwCl [(m0, .inr (6, [.int 0, .int ms, .int mi, .int mt, .int ma, .int mf, .int mk, .int mp, .ref m1, .ref m2, .ref m3, .ref m4, .ref m5, .ref m6, .ref m7, .ref m8, .ref m9, .ref m10, .ref m11, .ref m12, .ref m13, .ref m14, .ref m15, .ref m16, .ref m17, .ref m18, .ref m19])), (m5, .inl (km5, 30, .inl (upd mus mi.toNatClampNeg ug))), (m6, .inl (km6, 30, .inl mss)), (m7, .inl (km7, 270, .inl mbs))] H := hP
              have hD : va_D A [(m0, .inr (6, [.int 0, .int ms, .int mi, .int mt, .int ma, .int mf, .int mk, .int mp, .ref m1, .ref m2, .ref m3, .ref m4, .ref m5, .ref m6, .ref m7, .ref m8, .ref m9, .ref m10, .ref m11, .ref m12, .ref m13, .ref m14, .ref m15, .ref m16, .ref m17, .ref m18, .ref m19])), (m5, .inl (km5, 30, .inl (upd mus mi.toNatClampNeg ug))), (m6, .inl (km6, 30, .inl mss)), (m7, .inl (km7, 270, .inl mbs))] := hD
              obtain ⟨g_1, e_g_1⟩ : ∃ y, y = upd mus mi.toNatClampNeg ug := ⟨_, rfl⟩
              rw [← e_g_1] at hP hD
              refine lv_aload_n hx hb dX5_item_58 rfl (lv_at hl 0 rfl) ?_
              refine va_get (D := (dC, dI)) (ci := 6) (v := .ref m6) (C := RX5) (T := TX5) (N := 27) hx hb hts (by decide +kernel) hown hK hP 0 rfl rfl 13 (by decide) (hts (.fieldLink RX5 26 "CobolDebuggerModel" "sizes" "[I") (by decide +kernel)) (fun _ h9 => h9) rfl dX5_item_59 ?_
              refine lv_aload_n hx hb dX5_item_62 rfl (lv_at hl 0 rfl) ?_
              refine va_get (D := (dC, dI)) (ci := 6) (v := .int mi) (C := RX5) (T := TX5) (N := 27) hx hb hts (by decide +kernel) hown hK hP 0 rfl rfl 2 (by decide) (hts (.fieldLink RX5 76 "CobolDebuggerModel" "items" "I") (by decide +kernel)) (fun _ h9 => h9) rfl dX5_item_63 ?_
              refine lv_iload_n hx hb dX5_item_66 rfl (lv_at hl 2 rfl) ?_
              refine va_iast hx hb hK hP hD hS 2 1 rfl rfl (i := mi) him dX5_item_67 (fun H locs hP hD hS => ?_)
              have hP : va_P (dC, dI) vwCl [(m0, .inr (6, [.int 0, .int ms, .int mi, .int mt, .int ma, .int mf, .int mk, .int mp, .ref m1, .ref m2, .ref m3, .ref m4, .ref m5, .ref m6, .ref m7, .ref m8, .ref m9, .ref m10, .ref m11, .ref m12, .ref m13, .ref m14, .ref m15, .ref m16, .ref m17, .ref m18, .ref m19])), (m5, .inl (km5, 30, .inl g_1)), (m6, .inl (km6, 30, .inl (upd mss mi.toNatClampNeg sx))), (m7, .inl (km7, 270, .inl mbs))] H := hP
              have hD : va_D A [(m0, .inr (6, [.int 0, .int ms, .int mi, .int mt, .int ma, .int mf, .int mk, .int mp, .ref m1, .ref m2, .ref m3, .ref m4, .ref m5, .ref m6, .ref m7, .ref m8, .ref m9, .ref m10, .ref m11, .ref m12, .ref m13, .ref m14, .ref m15, .ref m16, .ref m17, .ref m18, .ref m19])), (m5, .inl (km5, 30, .inl g_1)), (m6, .inl (km6, 30, .inl (upd mss mi.toNatClampNeg sx))), (m7, .inl (km7, 270, .inl mbs))] := hD
              obtain ⟨g_2, e_g_2⟩ : ∃ y, y = upd mss mi.toNatClampNeg sx := ⟨_, rfl⟩
              rw [← e_g_2] at hP hD
              refine lv_iconst (v := 0) hx hb dX5_item_68 (by decide) ?_
              refine lv_istore_n (lv' := [(3, .int 0), (0, .ref m0), (1, .int ug), (2, .int sx)]) hx hb dX5_item_69 rfl hl (by decide) rfl (fun ls hl => ?_)
              refine wl2 (μ := fun (i : Int32) (bx : Nat → Int32) => (sx.toInt - i.toInt).toNat) (I := fun (i : Int32) (bx : Nat → Int32) (ls : Array Slot) (H : Heap) (locs : List Loc) => lv_has ls 4 [(0, .ref m0), (1, .int ug), (2, .int sx), (3, .int i)] ∧ va_P (dC, dI) vwCl [(m0, .inr (6, [.int 0, .int ms, .int mi, .int mt, .int ma, .int mf, .int mk, .int mp, .ref m1, .ref m2, .ref m3, .ref m4, .ref m5, .ref m6, .ref m7, .ref m8, .ref m9, .ref m10, .ref m11, .ref m12, .ref m13, .ref m14, .ref m15, .ref m16, .ref m17, .ref m18, .ref m19])), (m5, .inl (km5, 30, .inl g_1)), (m6, .inl (km6, 30, .inl g_2)), (m7, .inl (km7, 270, .inl bx))] H ∧ va_D A [(m0, .inr (6, [.int 0, .int ms, .int mi, .int mt, .int ma, .int mf, .int mk, .int mp, .ref m1, .ref m2, .ref m3, .ref m4, .ref m5, .ref m6, .ref m7, .ref m8, .ref m9, .ref m10, .ref m11, .ref m12, .ref m13, .ref m14, .ref m15, .ref m16, .ref m17, .ref m18, .ref m19])), (m5, .inl (km5, 30, .inl g_1)), (m6, .inl (km6, 30, .inl g_2)), (m7, .inl (km7, 270, .inl bx))] ∧ va_S A s.heap H locs ∧ (0 ≤ i.toInt) ∧ (fitB mbs → fitB bx)) (fun i bx ls H locs hI ih => ?_) 0 mbs ls _ _ ⟨lv_sub hl [1, 2, 3, 0] rfl, hP, hD, hS, by decide, id⟩
              obtain ⟨hl, hP, hD, hS, hk0, hfx⟩ := hI
              refine lv_iload_n hx hb dX5_item_70 rfl (lv_at hl 3 rfl) ?_
              refine lv_iload_n hx hb dX5_item_71 rfl (lv_at hl 2 rfl) ?_
              refine lv_icmp_ge (tgt := 107) hx hb dX5_item_72 (by decide) (fun c_72 => ?_) (fun c_72 => ?_)
              · refine lv_aload_n hx hb dX5_item_107 rfl (lv_at hl 0 rfl) ?_
                refine lv_dup hx hb dX5_item_108 rfl ?_
                refine va_get (D := (dC, dI)) (ci := 6) (v := .int mi) (C := RX5) (T := TX5) (N := 27) hx hb hts (by decide +kernel) hown hK hP 0 rfl rfl 2 (by decide) (hts (.fieldLink RX5 76 "CobolDebuggerModel" "items" "I") (by decide +kernel)) (fun _ h9 => h9) rfl dX5_item_109 ?_
                refine lv_iconst (v := 1) hx hb dX5_item_112 (by decide) ?_
                refine lv_iadd hx hb dX5_item_113 ?_
                refine lv_topi (fun v_3 e_v_3 => ?_)
                refine va_put (D := (dC, dI)) (ci := 6) (v := .int v_3) (ty := .int) (C := RX5) (T := TX5) (N := 27) hx hb hts (by decide +kernel) tyX5 tyX5_ok nmX5 hown hK hP hD hS 0 rfl rfl 2 (by decide) (hts (.fieldLink RX5 76 "CobolDebuggerModel" "items" "I") (by decide +kernel)) (fun _ h9 => h9) rfl (by decide +kernel) rfl rfl (Nat.le_of_ble_eq_true rfl) dX5_item_114 (fun H locs hP hD hS => ?_)
                have hP : va_P (dC, dI) vwCl [(m0, .inr (6, [.int 0, .int ms, .int v_3, .int mt, .int ma, .int mf, .int mk, .int mp, .ref m1, .ref m2, .ref m3, .ref m4, .ref m5, .ref m6, .ref m7, .ref m8, .ref m9, .ref m10, .ref m11, .ref m12, .ref m13, .ref m14, .ref m15, .ref m16, .ref m17, .ref m18, .ref m19])), (m5, .inl (km5, 30, .inl g_1)), (m6, .inl (km6, 30, .inl g_2)), (m7, .inl (km7, 270, .inl bx))] H := hP
                have hD : va_D A [(m0, .inr (6, [.int 0, .int ms, .int v_3, .int mt, .int ma, .int mf, .int mk, .int mp, .ref m1, .ref m2, .ref m3, .ref m4, .ref m5, .ref m6, .ref m7, .ref m8, .ref m9, .ref m10, .ref m11, .ref m12, .ref m13, .ref m14, .ref m15, .ref m16, .ref m17, .ref m18, .ref m19])), (m5, .inl (km5, 30, .inl g_1)), (m6, .inl (km6, 30, .inl g_2)), (m7, .inl (km7, 270, .inl bx))] := hD
                refine lv_aload_n hx hb dX5_item_117 rfl (lv_at hl 0 rfl) ?_
                refine va_get (D := (dC, dI)) (ci := 6) (v := .int v_3) (C := RX5) (T := TX5) (N := 27) hx hb hts (by decide +kernel) hown hK hP 0 rfl rfl 2 (by decide) (hts (.fieldLink RX5 76 "CobolDebuggerModel" "items" "I") (by decide +kernel)) (fun _ h9 => h9) rfl dX5_item_118 ?_
                refine lv_iconst (v := 1) hx hb dX5_item_121 (by decide) ?_
                refine lv_isub hx hb dX5_item_122 ?_
                exact W.iret (v := v_3 - 1) hx hb hr (fun t ht hW => ⟨⟨(v_3 - 1), (0, v_3, g_1, g_2, bx), rfl, ⟨by unfold itemA; rw [if_neg hbd, if_pos hlt, e_v_3]; exact Int32.add_sub_cancel _ _, fun _ _ => ⟨e_v_3, e_g_1⟩, fun h => absurd ⟨hbd, hlt⟩ h, fun _ _ _ _ _ h => mc_item h hlt hz9.1 hz9.2 e_v_3 e_g_2, hfx⟩, by rw [ht]; exact hP, hD⟩, hS.F ht⟩) hS.2.2 dX5_item_123
              · have hk9 : i.toInt < 9 := by rw [i_le] at c_72; omega
                refine lv_aload_n hx hb dX5_item_75 rfl (lv_at hl 0 rfl) ?_
                refine va_get (D := (dC, dI)) (ci := 6) (v := .ref m7) (C := RX5) (T := TX5) (N := 27) hx hb hts (by decide +kernel) hown hK hP 0 rfl rfl 14 (by decide) (hts (.fieldLink RX5 29 "CobolDebuggerModel" "bytes" "[B") (by decide +kernel)) (fun _ h9 => h9) rfl dX5_item_76 ?_
                refine lv_bipush (v := 9) hx hb dX5_item_79 (by decide) ?_
                refine lv_aload_n hx hb dX5_item_81 rfl (lv_at hl 0 rfl) ?_
                refine va_get (D := (dC, dI)) (ci := 6) (v := .int mi) (C := RX5) (T := TX5) (N := 27) hx hb hts (by decide +kernel) hown hK hP 0 rfl rfl 2 (by decide) (hts (.fieldLink RX5 76 "CobolDebuggerModel" "items" "I") (by decide +kernel)) (fun _ h9 => h9) rfl dX5_item_82 ?_
                refine lv_imul hx hb dX5_item_85 ?_
                refine lv_iload_n hx hb dX5_item_86 rfl (lv_at hl 3 rfl) ?_
                refine lv_iadd hx hb dX5_item_87 ?_
                refine lv_iload_n hx hb dX5_item_88 rfl (lv_at hl 1 rfl) ?_
                refine lv_iconst (v := 1) hx hb dX5_item_89 (by decide) ?_
                refine lv_icmp_ne (tgt := 97) hx hb dX5_item_90 (by decide) (fun c_90 => ?_) (fun c_90 => ?_)
                · refine lv_bipush (v := 48) hx hb dX5_item_97 (by decide) ?_
                  refine lv_i2b hx hb dX5_item_99 rfl ?_
                  refine va_bast hx hb hK hP hD hS 3 2 rfl rfl (i := (9 * mi) + i) (ix_9m him hk0 hk9) dX5_item_100 (fun H locs hP hD hS => ?_)
                  have hP : va_P (dC, dI) vwCl [(m0, .inr (6, [.int 0, .int ms, .int mi, .int mt, .int ma, .int mf, .int mk, .int mp, .ref m1, .ref m2, .ref m3, .ref m4, .ref m5, .ref m6, .ref m7, .ref m8, .ref m9, .ref m10, .ref m11, .ref m12, .ref m13, .ref m14, .ref m15, .ref m16, .ref m17, .ref m18, .ref m19])), (m5, .inl (km5, 30, .inl g_1)), (m6, .inl (km6, 30, .inl g_2)), (m7, .inl (km7, 270, .inl (upd bx ((9 * mi) + i).toNatClampNeg (vp_nar .byte ((48 : Int32).toInt8.toInt32)))))] H := hP
                  have hD : va_D A [(m0, .inr (6, [.int 0, .int ms, .int mi, .int mt, .int ma, .int mf, .int mk, .int mp, .ref m1, .ref m2, .ref m3, .ref m4, .ref m5, .ref m6, .ref m7, .ref m8, .ref m9, .ref m10, .ref m11, .ref m12, .ref m13, .ref m14, .ref m15, .ref m16, .ref m17, .ref m18, .ref m19])), (m5, .inl (km5, 30, .inl g_1)), (m6, .inl (km6, 30, .inl g_2)), (m7, .inl (km7, 270, .inl (upd bx ((9 * mi) + i).toNatClampNeg (vp_nar .byte ((48 : Int32).toInt8.toInt32)))))] := hD
                  obtain ⟨g_4, e_g_4⟩ : ∃ y, y = upd bx ((9 * mi) + i).toNatClampNeg (vp_nar .byte ((48 : Int32).toInt8.toInt32)) := ⟨_, rfl⟩
                  rw [← e_g_4] at hP hD
                  obtain ⟨i_5, e_i_5⟩ : ∃ y : Int32, y = i + 1 := ⟨_, rfl⟩
                  refine lv_iinc (v := i_5) (lv' := [(3, .int i_5), (0, .ref m0), (1, .int ug), (2, .int sx)]) hx hb dX5_item_101 hl (k := 3) rfl (by rw [e_i_5]; rfl) (by decide) rfl (fun ls hl => ?_)
                  refine lv_goto (tgt := 70) hx hb dX5_item_104 (by decide) ?_
                  exact ih i_5 g_4 _ _ _ ⟨lv_sub hl [1, 2, 3, 0] rfl, hP, hD, hS, by rw [e_i_5, i_p1 (by omega) (by omega)]; omega, fun h => by rw [e_g_4]; exact fitB_upd (hfx h) _ _⟩ (by rw [e_i_5, i_p1 (by omega) (by omega)]; rw [i_le] at c_72; omega)
                · refine lv_iconst (v := 0) hx hb dX5_item_93 (by decide) ?_
                  refine lv_goto (tgt := 99) hx hb dX5_item_94 (by decide) ?_
                  refine lv_i2b hx hb dX5_item_99 rfl ?_
                  refine va_bast hx hb hK hP hD hS 3 2 rfl rfl (i := (9 * mi) + i) (ix_9m him hk0 hk9) dX5_item_100 (fun H locs hP hD hS => ?_)
                  have hP : va_P (dC, dI) vwCl [(m0, .inr (6, [.int 0, .int ms, .int mi, .int mt, .int ma, .int mf, .int mk, .int mp, .ref m1, .ref m2, .ref m3, .ref m4, .ref m5, .ref m6, .ref m7, .ref m8, .ref m9, .ref m10, .ref m11, .ref m12, .ref m13, .ref m14, .ref m15, .ref m16, .ref m17, .ref m18, .ref m19])), (m5, .inl (km5, 30, .inl g_1)), (m6, .inl (km6, 30, .inl g_2)), (m7, .inl (km7, 270, .inl (upd bx ((9 * mi) + i).toNatClampNeg (vp_nar .byte ((0 : Int32).toInt8.toInt32)))))] H := hP
                  have hD : va_D A [(m0, .inr (6, [.int 0, .int ms, .int mi, .int mt, .int ma, .int mf, .int mk, .int mp, .ref m1, .ref m2, .ref m3, .ref m4, .ref m5, .ref m6, .ref m7, .ref m8, .ref m9, .ref m10, .ref m11, .ref m12, .ref m13, .ref m14, .ref m15, .ref m16, .ref m17, .ref m18, .ref m19])), (m5, .inl (km5, 30, .inl g_1)), (m6, .inl (km6, 30, .inl g_2)), (m7, .inl (km7, 270, .inl (upd bx ((9 * mi) + i).toNatClampNeg (vp_nar .byte ((0 : Int32).toInt8.toInt32)))))] := hD
                  obtain ⟨g_6, e_g_6⟩ : ∃ y, y = upd bx ((9 * mi) + i).toNatClampNeg (vp_nar .byte ((0 : Int32).toInt8.toInt32)) := ⟨_, rfl⟩
                  rw [← e_g_6] at hP hD
                  obtain ⟨i_7, e_i_7⟩ : ∃ y : Int32, y = i + 1 := ⟨_, rfl⟩
                  refine lv_iinc (v := i_7) (lv' := [(3, .int i_7), (0, .ref m0), (1, .int ug), (2, .int sx)]) hx hb dX5_item_101 hl (k := 3) rfl (by rw [e_i_7]; rfl) (by decide) rfl (fun ls hl => ?_)
                  refine lv_goto (tgt := 70) hx hb dX5_item_104 (by decide) ?_
                  exact ih i_7 g_6 _ _ _ ⟨lv_sub hl [1, 2, 3, 0] rfl, hP, hD, hS, by rw [e_i_7, i_p1 (by omega) (by omega)]; omega, fun h => by rw [e_g_6]; exact fitB_upd (hfx h) _ _⟩ (by rw [e_i_7, i_p1 (by omega) (by omega)]; rw [i_le] at c_72; omega)
            · refine lv_iconst (v := (-1)) hx hb dX5_item_46 (by decide) ?_
              exact W.iret (v := (-1)) hx hb hr (fun t ht hW => ⟨⟨(-1), (0, mi, mus, mss, mbs), rfl, ⟨by unfold itemA; rw [if_neg hbd, if_neg (by rw [c_43]; decide)], fun _ h => absurd h (by rw [c_43]; decide), fun _ => ⟨rfl, rfl⟩, fun _ _ _ _ _ h => h, id⟩, by rw [ht]; exact hP, hD⟩, hS.F ht⟩) hS.2.2 dX5_item_47
          · refine lv_bipush (v := (-4)) hx hb dX5_item_34 (by decide) ?_
            exact W.iret (v := (-4)) hx hb hr (fun t ht hW => ⟨⟨(-4), (0, mi, mus, mss, mbs), rfl, ⟨by unfold itemA; rw [if_pos (Or.inr (Or.inr (Or.inr (by rw [if_neg c_22]; exact Int32.not_le.mp c_31))))], fun h => absurd (Or.inr (Or.inr (Or.inr (by rw [if_neg c_22]; exact Int32.not_le.mp c_31)))) h, fun _ => ⟨rfl, rfl⟩, fun _ _ _ _ _ h => h, id⟩, by rw [ht]; exact hP, hD⟩, hS.F ht⟩) hS.2.2 dX5_item_36
        · refine lv_iconst (v := 4) hx hb dX5_item_25 (by decide) ?_
          refine lv_goto (tgt := 31) hx hb dX5_item_26 (by decide) ?_
          refine lv_icmp_le (tgt := 37) hx hb dX5_item_31 (by decide) (fun c_31 => ?_) (fun c_31 => ?_)
          · have hbd : ¬ (ug < 0 ∨ 2 < ug ∨ sx < 1 ∨ (if ug = 1 then 4 else 9) < sx) := by rintro (h | h | h | h); exact c_6 h; exact c_11 h; exact c_16 h; rw [if_pos c_22] at h; exact (Int32.not_lt.mpr c_31) h
            refine lv_aload_n hx hb dX5_item_37 rfl (lv_at hl 0 rfl) ?_
            refine va_get (D := (dC, dI)) (ci := 6) (v := .int mi) (C := RX5) (T := TX5) (N := 27) hx hb hts (by decide +kernel) hown hK hP 0 rfl rfl 2 (by decide) (hts (.fieldLink RX5 76 "CobolDebuggerModel" "items" "I") (by decide +kernel)) (fun _ h9 => h9) rfl dX5_item_38 ?_
            refine lv_bipush (v := 30) hx hb dX5_item_41 (by decide) ?_
            refine lv_icmp_ne (tgt := 48) hx hb dX5_item_43 (by decide) (fun c_43 => ?_) (fun c_43 => ?_)
            · have hlt : mi < 30 := i_c mi 30 30 (by decide) hi1 c_43
              have him : vp_in mi 30 := ix_r hi0 (by rw [i_lt] at hlt; have e1 : (30 : Int32).toInt = 30 := (by decide); omega)
              have hz9 := sz_9 hbd
              refine lv_aload_n hx hb dX5_item_48 rfl (lv_at hl 0 rfl) ?_
              refine va_get (D := (dC, dI)) (ci := 6) (v := .ref m5) (C := RX5) (T := TX5) (N := 27) hx hb hts (by decide +kernel) hown hK hP 0 rfl rfl 12 (by decide) (hts (.fieldLink RX5 23 "CobolDebuggerModel" "usages" "[I") (by decide +kernel)) (fun _ h9 => h9) rfl dX5_item_49 ?_
              refine lv_aload_n hx hb dX5_item_52 rfl (lv_at hl 0 rfl) ?_
              refine va_get (D := (dC, dI)) (ci := 6) (v := .int mi) (C := RX5) (T := TX5) (N := 27) hx hb hts (by decide +kernel) hown hK hP 0 rfl rfl 2 (by decide) (hts (.fieldLink RX5 76 "CobolDebuggerModel" "items" "I") (by decide +kernel)) (fun _ h9 => h9) rfl dX5_item_53 ?_
              refine lv_iload_n hx hb dX5_item_56 rfl (lv_at hl 1 rfl) ?_
              refine va_iast hx hb hK hP hD hS 1 0 rfl rfl (i := mi) him dX5_item_57 (fun H locs hP hD hS => ?_)
              have hP : va_P (dC, dI) vwCl [(m0, .inr (6, [.int 0, .int ms, .int mi, .int mt, .int ma, .int mf, .int mk, .int mp, .ref m1, .ref m2, .ref m3, .ref m4, .ref m5, .ref m6, .ref m7, .ref m8, .ref m9, .ref m10, .ref m11, .ref m12, .ref m13, .ref m14, .ref m15, .ref m16, .ref m17, .ref m18, .ref m19])), (m5, .inl (km5, 30, .inl (upd mus mi.toNatClampNeg ug))), (m6, .inl (km6, 30, .inl mss)), (m7, .inl (km7, 270, .inl mbs))] H := hP
              have hD : va_D A [(m0, .inr (6, [.int 0, .int ms, .int mi, .int mt, .int ma, .int mf, .int mk, .int mp, .ref m1, .ref m2, .ref m3, .ref m4, .ref m5, .ref m6, .ref m7, .ref m8, .ref m9, .ref m10, .ref m11, .ref m12, .ref m13, .ref m14, .ref m15, .ref m16, .ref m17, .ref m18, .ref m19])), (m5, .inl (km5, 30, .inl (upd mus mi.toNatClampNeg ug))), (m6, .inl (km6, 30, .inl mss)), (m7, .inl (km7, 270, .inl mbs))] := hD
              obtain ⟨g_8, e_g_8⟩ : ∃ y, y = upd mus mi.toNatClampNeg ug := ⟨_, rfl⟩
              rw [← e_g_8] at hP hD
              refine lv_aload_n hx hb dX5_item_58 rfl (lv_at hl 0 rfl) ?_
              refine va_get (D := (dC, dI)) (ci := 6) (v := .ref m6) (C := RX5) (T := TX5) (N := 27) hx hb hts (by decide +kernel) hown hK hP 0 rfl rfl 13 (by decide) (hts (.fieldLink RX5 26 "CobolDebuggerModel" "sizes" "[I") (by decide +kernel)) (fun _ h9 => h9) rfl dX5_item_59 ?_
              refine lv_aload_n hx hb dX5_item_62 rfl (lv_at hl 0 rfl) ?_
              refine va_get (D := (dC, dI)) (ci := 6) (v := .int mi) (C := RX5) (T := TX5) (N := 27) hx hb hts (by decide +kernel) hown hK hP 0 rfl rfl 2 (by decide) (hts (.fieldLink RX5 76 "CobolDebuggerModel" "items" "I") (by decide +kernel)) (fun _ h9 => h9) rfl dX5_item_63 ?_
              refine lv_iload_n hx hb dX5_item_66 rfl (lv_at hl 2 rfl) ?_
              refine va_iast hx hb hK hP hD hS 2 1 rfl rfl (i := mi) him dX5_item_67 (fun H locs hP hD hS => ?_)
              have hP : va_P (dC, dI) vwCl [(m0, .inr (6, [.int 0, .int ms, .int mi, .int mt, .int ma, .int mf, .int mk, .int mp, .ref m1, .ref m2, .ref m3, .ref m4, .ref m5, .ref m6, .ref m7, .ref m8, .ref m9, .ref m10, .ref m11, .ref m12, .ref m13, .ref m14, .ref m15, .ref m16, .ref m17, .ref m18, .ref m19])), (m5, .inl (km5, 30, .inl g_8)), (m6, .inl (km6, 30, .inl (upd mss mi.toNatClampNeg sx))), (m7, .inl (km7, 270, .inl mbs))] H := hP
              have hD : va_D A [(m0, .inr (6, [.int 0, .int ms, .int mi, .int mt, .int ma, .int mf, .int mk, .int mp, .ref m1, .ref m2, .ref m3, .ref m4, .ref m5, .ref m6, .ref m7, .ref m8, .ref m9, .ref m10, .ref m11, .ref m12, .ref m13, .ref m14, .ref m15, .ref m16, .ref m17, .ref m18, .ref m19])), (m5, .inl (km5, 30, .inl g_8)), (m6, .inl (km6, 30, .inl (upd mss mi.toNatClampNeg sx))), (m7, .inl (km7, 270, .inl mbs))] := hD
              obtain ⟨g_9, e_g_9⟩ : ∃ y, y = upd mss mi.toNatClampNeg sx := ⟨_, rfl⟩
              rw [← e_g_9] at hP hD
              refine lv_iconst (v := 0) hx hb dX5_item_68 (by decide) ?_
              refine lv_istore_n (lv' := [(3, .int 0), (0, .ref m0), (1, .int ug), (2, .int sx)]) hx hb dX5_item_69 rfl hl (by decide) rfl (fun ls hl => ?_)
              refine wl2 (μ := fun (i : Int32) (bx : Nat → Int32) => (sx.toInt - i.toInt).toNat) (I := fun (i : Int32) (bx : Nat → Int32) (ls : Array Slot) (H : Heap) (locs : List Loc) => lv_has ls 4 [(0, .ref m0), (1, .int ug), (2, .int sx), (3, .int i)] ∧ va_P (dC, dI) vwCl [(m0, .inr (6, [.int 0, .int ms, .int mi, .int mt, .int ma, .int mf, .int mk, .int mp, .ref m1, .ref m2, .ref m3, .ref m4, .ref m5, .ref m6, .ref m7, .ref m8, .ref m9, .ref m10, .ref m11, .ref m12, .ref m13, .ref m14, .ref m15, .ref m16, .ref m17, .ref m18, .ref m19])), (m5, .inl (km5, 30, .inl g_8)), (m6, .inl (km6, 30, .inl g_9)), (m7, .inl (km7, 270, .inl bx))] H ∧ va_D A [(m0, .inr (6, [.int 0, .int ms, .int mi, .int mt, .int ma, .int mf, .int mk, .int mp, .ref m1, .ref m2, .ref m3, .ref m4, .ref m5, .ref m6, .ref m7, .ref m8, .ref m9, .ref m10, .ref m11, .ref m12, .ref m13, .ref m14, .ref m15, .ref m16, .ref m17, .ref m18, .ref m19])), (m5, .inl (km5, 30, .inl g_8)), (m6, .inl (km6, 30, .inl g_9)), (m7, .inl (km7, 270, .inl bx))] ∧ va_S A s.heap H locs ∧ (0 ≤ i.toInt) ∧ (fitB mbs → fitB bx)) (fun i bx ls H locs hI ih => ?_) 0 mbs ls _ _ ⟨lv_sub hl [1, 2, 3, 0] rfl, hP, hD, hS, by decide, id⟩
              obtain ⟨hl, hP, hD, hS, hk0, hfx⟩ := hI
              refine lv_iload_n hx hb dX5_item_70 rfl (lv_at hl 3 rfl) ?_
              refine lv_iload_n hx hb dX5_item_71 rfl (lv_at hl 2 rfl) ?_
              refine lv_icmp_ge (tgt := 107) hx hb dX5_item_72 (by decide) (fun c_72 => ?_) (fun c_72 => ?_)
              · refine lv_aload_n hx hb dX5_item_107 rfl (lv_at hl 0 rfl) ?_
                refine lv_dup hx hb dX5_item_108 rfl ?_
                refine va_get (D := (dC, dI)) (ci := 6) (v := .int mi) (C := RX5) (T := TX5) (N := 27) hx hb hts (by decide +kernel) hown hK hP 0 rfl rfl 2 (by decide) (hts (.fieldLink RX5 76 "CobolDebuggerModel" "items" "I") (by decide +kernel)) (fun _ h9 => h9) rfl dX5_item_109 ?_
                refine lv_iconst (v := 1) hx hb dX5_item_112 (by decide) ?_
                refine lv_iadd hx hb dX5_item_113 ?_
                refine lv_topi (fun v_10 e_v_10 => ?_)
                refine va_put (D := (dC, dI)) (ci := 6) (v := .int v_10) (ty := .int) (C := RX5) (T := TX5) (N := 27) hx hb hts (by decide +kernel) tyX5 tyX5_ok nmX5 hown hK hP hD hS 0 rfl rfl 2 (by decide) (hts (.fieldLink RX5 76 "CobolDebuggerModel" "items" "I") (by decide +kernel)) (fun _ h9 => h9) rfl (by decide +kernel) rfl rfl (Nat.le_of_ble_eq_true rfl) dX5_item_114 (fun H locs hP hD hS => ?_)
                have hP : va_P (dC, dI) vwCl [(m0, .inr (6, [.int 0, .int ms, .int v_10, .int mt, .int ma, .int mf, .int mk, .int mp, .ref m1, .ref m2, .ref m3, .ref m4, .ref m5, .ref m6, .ref m7, .ref m8, .ref m9, .ref m10, .ref m11, .ref m12, .ref m13, .ref m14, .ref m15, .ref m16, .ref m17, .ref m18, .ref m19])), (m5, .inl (km5, 30, .inl g_8)), (m6, .inl (km6, 30, .inl g_9)), (m7, .inl (km7, 270, .inl bx))] H := hP
                have hD : va_D A [(m0, .inr (6, [.int 0, .int ms, .int v_10, .int mt, .int ma, .int mf, .int mk, .int mp, .ref m1, .ref m2, .ref m3, .ref m4, .ref m5, .ref m6, .ref m7, .ref m8, .ref m9, .ref m10, .ref m11, .ref m12, .ref m13, .ref m14, .ref m15, .ref m16, .ref m17, .ref m18, .ref m19])), (m5, .inl (km5, 30, .inl g_8)), (m6, .inl (km6, 30, .inl g_9)), (m7, .inl (km7, 270, .inl bx))] := hD
                refine lv_aload_n hx hb dX5_item_117 rfl (lv_at hl 0 rfl) ?_
                refine va_get (D := (dC, dI)) (ci := 6) (v := .int v_10) (C := RX5) (T := TX5) (N := 27) hx hb hts (by decide +kernel) hown hK hP 0 rfl rfl 2 (by decide) (hts (.fieldLink RX5 76 "CobolDebuggerModel" "items" "I") (by decide +kernel)) (fun _ h9 => h9) rfl dX5_item_118 ?_
                refine lv_iconst (v := 1) hx hb dX5_item_121 (by decide) ?_
                refine lv_isub hx hb dX5_item_122 ?_
                exact W.iret (v := v_10 - 1) hx hb hr (fun t ht hW => ⟨⟨(v_10 - 1), (0, v_10, g_8, g_9, bx), rfl, ⟨by unfold itemA; rw [if_neg hbd, if_pos hlt, e_v_10]; exact Int32.add_sub_cancel _ _, fun _ _ => ⟨e_v_10, e_g_8⟩, fun h => absurd ⟨hbd, hlt⟩ h, fun _ _ _ _ _ h => mc_item h hlt hz9.1 hz9.2 e_v_10 e_g_9, hfx⟩, by rw [ht]; exact hP, hD⟩, hS.F ht⟩) hS.2.2 dX5_item_123
              · have hk9 : i.toInt < 9 := by rw [i_le] at c_72; omega
                refine lv_aload_n hx hb dX5_item_75 rfl (lv_at hl 0 rfl) ?_
                refine va_get (D := (dC, dI)) (ci := 6) (v := .ref m7) (C := RX5) (T := TX5) (N := 27) hx hb hts (by decide +kernel) hown hK hP 0 rfl rfl 14 (by decide) (hts (.fieldLink RX5 29 "CobolDebuggerModel" "bytes" "[B") (by decide +kernel)) (fun _ h9 => h9) rfl dX5_item_76 ?_
                refine lv_bipush (v := 9) hx hb dX5_item_79 (by decide) ?_
                refine lv_aload_n hx hb dX5_item_81 rfl (lv_at hl 0 rfl) ?_
                refine va_get (D := (dC, dI)) (ci := 6) (v := .int mi) (C := RX5) (T := TX5) (N := 27) hx hb hts (by decide +kernel) hown hK hP 0 rfl rfl 2 (by decide) (hts (.fieldLink RX5 76 "CobolDebuggerModel" "items" "I") (by decide +kernel)) (fun _ h9 => h9) rfl dX5_item_82 ?_
                refine lv_imul hx hb dX5_item_85 ?_
                refine lv_iload_n hx hb dX5_item_86 rfl (lv_at hl 3 rfl) ?_
                refine lv_iadd hx hb dX5_item_87 ?_
                refine lv_iload_n hx hb dX5_item_88 rfl (lv_at hl 1 rfl) ?_
                refine lv_iconst (v := 1) hx hb dX5_item_89 (by decide) ?_
                refine lv_icmp_ne (tgt := 97) hx hb dX5_item_90 (by decide) (fun c_90 => ?_) (fun c_90 => ?_)
                · refine lv_bipush (v := 48) hx hb dX5_item_97 (by decide) ?_
                  refine lv_i2b hx hb dX5_item_99 rfl ?_
                  refine va_bast hx hb hK hP hD hS 3 2 rfl rfl (i := (9 * mi) + i) (ix_9m him hk0 hk9) dX5_item_100 (fun H locs hP hD hS => ?_)
                  have hP : va_P (dC, dI) vwCl [(m0, .inr (6, [.int 0, .int ms, .int mi, .int mt, .int ma, .int mf, .int mk, .int mp, .ref m1, .ref m2, .ref m3, .ref m4, .ref m5, .ref m6, .ref m7, .ref m8, .ref m9, .ref m10, .ref m11, .ref m12, .ref m13, .ref m14, .ref m15, .ref m16, .ref m17, .ref m18, .ref m19])), (m5, .inl (km5, 30, .inl g_8)), (m6, .inl (km6, 30, .inl g_9)), (m7, .inl (km7, 270, .inl (upd bx ((9 * mi) + i).toNatClampNeg (vp_nar .byte ((48 : Int32).toInt8.toInt32)))))] H := hP
                  have hD : va_D A [(m0, .inr (6, [.int 0, .int ms, .int mi, .int mt, .int ma, .int mf, .int mk, .int mp, .ref m1, .ref m2, .ref m3, .ref m4, .ref m5, .ref m6, .ref m7, .ref m8, .ref m9, .ref m10, .ref m11, .ref m12, .ref m13, .ref m14, .ref m15, .ref m16, .ref m17, .ref m18, .ref m19])), (m5, .inl (km5, 30, .inl g_8)), (m6, .inl (km6, 30, .inl g_9)), (m7, .inl (km7, 270, .inl (upd bx ((9 * mi) + i).toNatClampNeg (vp_nar .byte ((48 : Int32).toInt8.toInt32)))))] := hD
                  obtain ⟨g_11, e_g_11⟩ : ∃ y, y = upd bx ((9 * mi) + i).toNatClampNeg (vp_nar .byte ((48 : Int32).toInt8.toInt32)) := ⟨_, rfl⟩
                  rw [← e_g_11] at hP hD
                  obtain ⟨i_12, e_i_12⟩ : ∃ y : Int32, y = i + 1 := ⟨_, rfl⟩
                  refine lv_iinc (v := i_12) (lv' := [(3, .int i_12), (0, .ref m0), (1, .int ug), (2, .int sx)]) hx hb dX5_item_101 hl (k := 3) rfl (by rw [e_i_12]; rfl) (by decide) rfl (fun ls hl => ?_)
                  refine lv_goto (tgt := 70) hx hb dX5_item_104 (by decide) ?_
                  exact ih i_12 g_11 _ _ _ ⟨lv_sub hl [1, 2, 3, 0] rfl, hP, hD, hS, by rw [e_i_12, i_p1 (by omega) (by omega)]; omega, fun h => by rw [e_g_11]; exact fitB_upd (hfx h) _ _⟩ (by rw [e_i_12, i_p1 (by omega) (by omega)]; rw [i_le] at c_72; omega)
                · refine lv_iconst (v := 0) hx hb dX5_item_93 (by decide) ?_
                  refine lv_goto (tgt := 99) hx hb dX5_item_94 (by decide) ?_
                  refine lv_i2b hx hb dX5_item_99 rfl ?_
                  refine va_bast hx hb hK hP hD hS 3 2 rfl rfl (i := (9 * mi) + i) (ix_9m him hk0 hk9) dX5_item_100 (fun H locs hP hD hS => ?_)
                  have hP : va_P (dC, dI) vwCl [(m0, .inr (6, [.int 0, .int ms, .int mi, .int mt, .int ma, .int mf, .int mk, .int mp, .ref m1, .ref m2, .ref m3, .ref m4, .ref m5, .ref m6, .ref m7, .ref m8, .ref m9, .ref m10, .ref m11, .ref m12, .ref m13, .ref m14, .ref m15, .ref m16, .ref m17, .ref m18, .ref m19])), (m5, .inl (km5, 30, .inl g_8)), (m6, .inl (km6, 30, .inl g_9)), (m7, .inl (km7, 270, .inl (upd bx ((9 * mi) + i).toNatClampNeg (vp_nar .byte ((0 : Int32).toInt8.toInt32)))))] H := hP
                  have hD : va_D A [(m0, .inr (6, [.int 0, .int ms, .int mi, .int mt, .int ma, .int mf, .int mk, .int mp, .ref m1, .ref m2, .ref m3, .ref m4, .ref m5, .ref m6, .ref m7, .ref m8, .ref m9, .ref m10, .ref m11, .ref m12, .ref m13, .ref m14, .ref m15, .ref m16, .ref m17, .ref m18, .ref m19])), (m5, .inl (km5, 30, .inl g_8)), (m6, .inl (km6, 30, .inl g_9)), (m7, .inl (km7, 270, .inl (upd bx ((9 * mi) + i).toNatClampNeg (vp_nar .byte ((0 : Int32).toInt8.toInt32)))))] := hD
                  obtain ⟨g_13, e_g_13⟩ : ∃ y, y = upd bx ((9 * mi) + i).toNatClampNeg (vp_nar .byte ((0 : Int32).toInt8.toInt32)) := ⟨_, rfl⟩
                  rw [← e_g_13] at hP hD
                  obtain ⟨i_14, e_i_14⟩ : ∃ y : Int32, y = i + 1 := ⟨_, rfl⟩
                  refine lv_iinc (v := i_14) (lv' := [(3, .int i_14), (0, .ref m0), (1, .int ug), (2, .int sx)]) hx hb dX5_item_101 hl (k := 3) rfl (by rw [e_i_14]; rfl) (by decide) rfl (fun ls hl => ?_)
                  refine lv_goto (tgt := 70) hx hb dX5_item_104 (by decide) ?_
                  exact ih i_14 g_13 _ _ _ ⟨lv_sub hl [1, 2, 3, 0] rfl, hP, hD, hS, by rw [e_i_14, i_p1 (by omega) (by omega)]; omega, fun h => by rw [e_g_13]; exact fitB_upd (hfx h) _ _⟩ (by rw [e_i_14, i_p1 (by omega) (by omega)]; rw [i_le] at c_72; omega)
            · refine lv_iconst (v := (-1)) hx hb dX5_item_46 (by decide) ?_
              exact W.iret (v := (-1)) hx hb hr (fun t ht hW => ⟨⟨(-1), (0, mi, mus, mss, mbs), rfl, ⟨by unfold itemA; rw [if_neg hbd, if_neg (by rw [c_43]; decide)], fun _ h => absurd h (by rw [c_43]; decide), fun _ => ⟨rfl, rfl⟩, fun _ _ _ _ _ h => h, id⟩, by rw [ht]; exact hP, hD⟩, hS.F ht⟩) hS.2.2 dX5_item_47
          · refine lv_bipush (v := (-4)) hx hb dX5_item_34 (by decide) ?_
            exact W.iret (v := (-4)) hx hb hr (fun t ht hW => ⟨⟨(-4), (0, mi, mus, mss, mbs), rfl, ⟨by unfold itemA; rw [if_pos (Or.inr (Or.inr (Or.inr (by rw [if_pos c_22]; exact Int32.not_le.mp c_31))))], fun h => absurd (Or.inr (Or.inr (Or.inr (by rw [if_pos c_22]; exact Int32.not_le.mp c_31)))) h, fun _ => ⟨rfl, rfl⟩, fun _ _ _ _ _ h => h, id⟩, by rw [ht]; exact hP, hD⟩, hS.F ht⟩) hS.2.2 dX5_item_36

set_option maxHeartbeats 4000000 in
set_option maxRecDepth 100000 in
theorem g_X5_step (l : Launch) (dC : Nat → ClassId) (dI : Nat → Nat → Nat) (sz : Nat) (m0 m1 m2 m3 m4 m5 m6 m7 m8 m9 m10 m11 m12 m13 m14 m15 m16 m17 m18 m19 : Nat) (km3 km4 : ClassId) (mds : Nat → Int32) (mmo : Nat → Int64) (ce ms mi mt ma mf mk mp : Int32) (st : Int32) (im : Int32) (v : Int64) (hs1 : ms.toInt ≤ 100) : Met l yX5_step wsX5_step ({ frames := 1, cells := 0, slots := 0, locals := 21 }) (va_Pc [.ref m0, .int st, .int im, .long v] (fun U => U.heap.size = sz ∧ va_P (dC, dI) vwCl [(m0, .inr (6, [.int ce, .int ms, .int mi, .int mt, .int ma, .int mf, .int mk, .int mp, .ref m1, .ref m2, .ref m3, .ref m4, .ref m5, .ref m6, .ref m7, .ref m8, .ref m9, .ref m10, .ref m11, .ref m12, .ref m13, .ref m14, .ref m15, .ref m16, .ref m17, .ref m18, .ref m19])), (m3, .inl (km3, 102, .inl mds)), (m4, .inl (km4, 102, .inr (.inl mmo)))] U.heap ∧ va_K (dC, dI) vwCl [(km3, .int), (km4, .long)] U ∧ va_D (fun _ => True) [(m0, .inr (6, [.int ce, .int ms, .int mi, .int mt, .int ma, .int mf, .int mk, .int mp, .ref m1, .ref m2, .ref m3, .ref m4, .ref m5, .ref m6, .ref m7, .ref m8, .ref m9, .ref m10, .ref m11, .ref m12, .ref m13, .ref m14, .ref m15, .ref m16, .ref m17, .ref m18, .ref m19])), (m3, .inl (km3, 102, .inl mds)), (m4, .inl (km4, 102, .inr (.inl mmo)))])) (va_Qi (fun (r : Int32) (u : Int32 × (Nat → Int32) × (Nat → Int64)) => r = stepA ms mi st im ∧ (∀ mt mpg mss mkd mof, mcI ms mi mt mpg mds mss mkd mof → mcI ms mi mt mpg (u.2.1) mss mkd mof)) (fun (u : Int32 × (Nat → Int32) × (Nat → Int64)) (t : State) => va_P (dC, dI) vwCl [(m0, .inr (6, [.int u.1, .int ms, .int mi, .int mt, .int ma, .int mf, .int mk, .int mp, .ref m1, .ref m2, .ref m3, .ref m4, .ref m5, .ref m6, .ref m7, .ref m8, .ref m9, .ref m10, .ref m11, .ref m12, .ref m13, .ref m14, .ref m15, .ref m16, .ref m17, .ref m18, .ref m19])), (m3, .inl (km3, 102, .inl u.2.1)), (m4, .inl (km4, 102, .inr (.inl u.2.2)))] t.heap ∧ va_D (va_A [(m0, .inr (6, [.int ce, .int ms, .int mi, .int mt, .int ma, .int mf, .int mk, .int mp, .ref m1, .ref m2, .ref m3, .ref m4, .ref m5, .ref m6, .ref m7, .ref m8, .ref m9, .ref m10, .ref m11, .ref m12, .ref m13, .ref m14, .ref m15, .ref m16, .ref m17, .ref m18, .ref m19])), (m3, .inl (km3, 102, .inl mds)), (m4, .inl (km4, 102, .inr (.inl mmo)))] sz) [(m0, .inr (6, [.int u.1, .int ms, .int mi, .int mt, .int ma, .int mf, .int mk, .int mp, .ref m1, .ref m2, .ref m3, .ref m4, .ref m5, .ref m6, .ref m7, .ref m8, .ref m9, .ref m10, .ref m11, .ref m12, .ref m13, .ref m14, .ref m15, .ref m16, .ref m17, .ref m18, .ref m19])), (m3, .inl (km3, 102, .inl u.2.1)), (m4, .inl (km4, 102, .inr (.inl u.2.2)))]) (va_A [(m0, .inr (6, [.int ce, .int ms, .int mi, .int mt, .int ma, .int mf, .int mk, .int mp, .ref m1, .ref m2, .ref m3, .ref m4, .ref m5, .ref m6, .ref m7, .ref m8, .ref m9, .ref m10, .ref m11, .ref m12, .ref m13, .ref m14, .ref m15, .ref m16, .ref m17, .ref m18, .ref m19])), (m3, .inl (km3, 102, .inl mds)), (m4, .inl (km4, 102, .inr (.inl mmo)))] sz)) 0 0 (va_A [(m0, .inr (6, [.int ce, .int ms, .int mi, .int mt, .int ma, .int mf, .int mk, .int mp, .ref m1, .ref m2, .ref m3, .ref m4, .ref m5, .ref m6, .ref m7, .ref m8, .ref m9, .ref m10, .ref m11, .ref m12, .ref m13, .ref m14, .ref m15, .ref m16, .ref m17, .ref m18, .ref m19])), (m3, .inl (km3, 102, .inl mds)), (m4, .inl (km4, 102, .inr (.inl mmo)))] sz) := by
  refine Met.ofW (cc := cX5_step) (maxL := 5) (ret := (some .int)) (by decide) rfl ?_
  intro p e s m args below meth c s₁ B hml hv
  obtain ⟨rfl, hsz, hP, hK, hD0⟩ := hv
  have hx := B.exec
  have hb := B.bytes
  have hr := B.returns
  have hts := atoms_spec (ws := wsX5_step) B.pre
  have hown : s.vm.findClass RX5 = some m.cls := findClass_of_methodNamed B.named
  have hlocks := B.notSynchronized
  subst hsz
  have hD := hD0.self (sz := s.heap.size)
  generalize hAe : va_A [(m0, .inr (6, [.int ce, .int ms, .int mi, .int mt, .int ma, .int mf, .int mk, .int mp, .ref m1, .ref m2, .ref m3, .ref m4, .ref m5, .ref m6, .ref m7, .ref m8, .ref m9, .ref m10, .ref m11, .ref m12, .ref m13, .ref m14, .ref m15, .ref m16, .ref m17, .ref m18, .ref m19])), (m3, .inl (km3, 102, .inl mds)), (m4, .inl (km4, 102, .inr (.inl mmo)))] s.heap.size = A at hD ⊢
  have hA : ∀ q : Nat, s.heap.size ≤ q → A q := fun q h => by rw [← hAe]; exact Or.inr h
  have hS : va_S A s.heap s.heap [] := va_S.rf
  have hl := lv_entry ([.ref m0, .int st, .int im, .long v]) (n := 5) (Nat.le_of_ble_eq_true rfl)
  rw [lg_entry_eq]
  generalize (lg_sl ([.ref m0, .int st, .int im, .long v]) ++ List.replicate (5 - (lg_sl ([.ref m0, .int st, .int im, .long v])).length) Slot.unset).toArray = ls at hl ⊢
  have hl : lv_has ls 5 [(0, .ref m0), (1, .int st), (2, .int im), (3, .long v)] := hl
  refine lv_aload_n hx hb dX5_step_0 rfl (lv_at hl 0 rfl) ?_
  refine lv_iconst (v := 0) hx hb dX5_step_1 (by decide) ?_
  refine va_put (D := (dC, dI)) (ci := 6) (v := .int 0) (ty := .int) (C := RX5) (T := TX5) (N := 27) hx hb hts (by decide +kernel) tyX5 tyX5_ok nmX5 hown hK hP hD hS 0 rfl rfl 0 (by decide) (hts (.fieldLink RX5 69 "CobolDebuggerModel" "code" "I") (by decide +kernel)) (fun _ h9 => h9) rfl (by decide +kernel) rfl rfl (Nat.le_of_ble_eq_true rfl) dX5_step_2 (fun H locs hP hD hS => ?_)
  have hP : va_P (dC, dI) vwCl [(m0, .inr (6, [.int 0, .int ms, .int mi, .int mt, .int ma, .int mf, .int mk, .int mp, .ref m1, .ref m2, .ref m3, .ref m4, .ref m5, .ref m6, .ref m7, .ref m8, .ref m9, .ref m10, .ref m11, .ref m12, .ref m13, .ref m14, .ref m15, .ref m16, .ref m17, .ref m18, .ref m19])), (m3, .inl (km3, 102, .inl mds)), (m4, .inl (km4, 102, .inr (.inl mmo)))] H := hP
  have hD : va_D A [(m0, .inr (6, [.int 0, .int ms, .int mi, .int mt, .int ma, .int mf, .int mk, .int mp, .ref m1, .ref m2, .ref m3, .ref m4, .ref m5, .ref m6, .ref m7, .ref m8, .ref m9, .ref m10, .ref m11, .ref m12, .ref m13, .ref m14, .ref m15, .ref m16, .ref m17, .ref m18, .ref m19])), (m3, .inl (km3, 102, .inl mds)), (m4, .inl (km4, 102, .inr (.inl mmo)))] := hD
  refine lv_aload_n hx hb dX5_step_5 rfl (lv_at hl 0 rfl) ?_
  refine lv_iload_n hx hb dX5_step_6 rfl (lv_at hl 1 rfl) ?_
  have hPc := hP.sub (ws' := [(m0, .inr (6, [.int 0, .int ms, .int mi, .int mt, .int ma, .int mf, .int mk, .int mp, .ref m1, .ref m2, .ref m3, .ref m4, .ref m5, .ref m6, .ref m7, .ref m8, .ref m9, .ref m10, .ref m11, .ref m12, .ref m13, .ref m14, .ref m15, .ref m16, .ref m17, .ref m18, .ref m19]))]) [0] rfl
  have hKc := hK.sub (tys' := []) [] rfl
  refine va_calli (va_runV (As := [.int st]) (rest := []) ⟨hx, hb, hml, hown, hts⟩ (c_X5_isStatement l dC dI m0 m1 m2 m3 m4 m5 m6 m7 m8 m9 m10 m11 m12 m13 m14 m15 m16 m17 m18 m19 0 ms mi mt ma mf mk mp st) (cwV 1 hts gX5_step_X5_isStatement rfl rfl rfl (by decide +kernel) ⟨Nat.le_of_ble_eq_true rfl, Nat.le_of_ble_eq_true rfl⟩) ⟨fun a U g mk q => by obtain ⟨q0, qP, qK⟩ := q; exact ⟨q0, qP, va_K.moved (u := U) (U := U.calling g mk a) (Vm.Alike.refl U.vm) qK⟩, va_recv hKc hPc (ci := 6) (q0 := 0) rfl rfl, fun U hU hW => ⟨rfl, by rw [hU]; exact hPc, va_K.moved hW.alike hKc⟩⟩ rfl rfl hl.1 rfl (lv_room (Nat.le_of_ble_eq_true rfl)) dX5_step_7 ⟨Nat.zero_le _, Nat.zero_le _⟩) hS (fun q _ h => h.elim) (fun q h => h.elim) (fun r_7 u t H1 locs ht hvm w_7 hB hz1 hk1 hS => ?_)
  try dsimp only at w_7
  have hP := rd_keep hP hk1
  clear hB hk1 hz1 ht hvm u t
  generalize H1 = H at hP hS ⊢
  have w_7 := z01 w_7
  refine lv_if_eq (tgt := 21) hx hb dX5_step_10 (by decide) (fun c_10 => ?_) (fun c_10 => ?_)
  · refine lv_bipush (v := (-2)) hx hb dX5_step_21 (by decide) ?_
    exact W.iret (v := (-2)) hx hb hr (fun t ht hW => ⟨⟨(-2), (0, mds, mmo), rfl, ⟨by unfold stepA; rw [if_pos ((w_7.mp c_10).elim (fun h => Or.inl (st_le h)) (fun h => Or.inr (Or.inl h)))], fun _ _ _ _ _ h => h⟩, by rw [ht]; exact hP, hD⟩, hS.F ht⟩) hS.2.2 dX5_step_23
  · refine lv_iload_n hx hb dX5_step_13 rfl (lv_at hl 2 rfl) ?_
    refine lv_aload_n hx hb dX5_step_14 rfl (lv_at hl 0 rfl) ?_
    refine va_get (D := (dC, dI)) (ci := 6) (v := .int mi) (C := RX5) (T := TX5) (N := 27) hx hb hts (by decide +kernel) hown hK hP 0 rfl rfl 2 (by decide) (hts (.fieldLink RX5 76 "CobolDebuggerModel" "items" "I") (by decide +kernel)) (fun _ h9 => h9) rfl dX5_step_15 ?_
    refine lv_icmp_lt (tgt := 24) hx hb dX5_step_18 (by decide) (fun c_18 => ?_) (fun c_18 => ?_)
    · have hst0 : ¬ st ≤ 0 := fun h => c_10 (w_7.mpr (Or.inl h))
      have hst1 : ¬ ms < st := fun h => c_10 (w_7.mpr (Or.inr h))
      have hb9 : ¬ (st < 1 ∨ ms < st ∨ mi ≤ im) := by rintro (h | h | h); exact st_gt hst0 h; exact hst1 h; exact (Int32.not_le.mpr c_18) h
      have hst9 : vp_in st 102 := ix_r (by have := pos_n hst0; omega) (by have := n_le hst1; omega)
      refine lv_iload_n hx hb dX5_step_24 rfl (lv_at hl 2 rfl) ?_
      refine lv_bipush (v := (-21)) hx hb dX5_step_25 (by decide) ?_
      refine lv_icmp_ge (tgt := 33) hx hb dX5_step_27 (by decide) (fun c_27 => ?_) (fun c_27 => ?_)
      · refine lv_aload_n hx hb dX5_step_33 rfl (lv_at hl 0 rfl) ?_
        refine va_get (D := (dC, dI)) (ci := 6) (v := .ref m3) (C := RX5) (T := TX5) (N := 27) hx hb hts (by decide +kernel) hown hK hP 0 rfl rfl 10 (by decide) (hts (.fieldLink RX5 16 "CobolDebuggerModel" "does" "[I") (by decide +kernel)) (fun _ h9 => h9) rfl dX5_step_34 ?_
        refine lv_iload_n hx hb dX5_step_37 rfl (lv_at hl 1 rfl) ?_
        refine lv_iload_n hx hb dX5_step_38 rfl (lv_at hl 2 rfl) ?_
        refine va_iast hx hb hK hP hD hS 1 0 rfl rfl (i := st) hst9 dX5_step_39 (fun H locs hP hD hS => ?_)
        have hP : va_P (dC, dI) vwCl [(m0, .inr (6, [.int 0, .int ms, .int mi, .int mt, .int ma, .int mf, .int mk, .int mp, .ref m1, .ref m2, .ref m3, .ref m4, .ref m5, .ref m6, .ref m7, .ref m8, .ref m9, .ref m10, .ref m11, .ref m12, .ref m13, .ref m14, .ref m15, .ref m16, .ref m17, .ref m18, .ref m19])), (m3, .inl (km3, 102, .inl (upd mds st.toNatClampNeg im))), (m4, .inl (km4, 102, .inr (.inl mmo)))] H := hP
        have hD : va_D A [(m0, .inr (6, [.int 0, .int ms, .int mi, .int mt, .int ma, .int mf, .int mk, .int mp, .ref m1, .ref m2, .ref m3, .ref m4, .ref m5, .ref m6, .ref m7, .ref m8, .ref m9, .ref m10, .ref m11, .ref m12, .ref m13, .ref m14, .ref m15, .ref m16, .ref m17, .ref m18, .ref m19])), (m3, .inl (km3, 102, .inl (upd mds st.toNatClampNeg im))), (m4, .inl (km4, 102, .inr (.inl mmo)))] := hD
        obtain ⟨g_1, e_g_1⟩ : ∃ y, y = upd mds st.toNatClampNeg im := ⟨_, rfl⟩
        rw [← e_g_1] at hP hD
        refine lv_aload_n hx hb dX5_step_40 rfl (lv_at hl 0 rfl) ?_
        refine va_get (D := (dC, dI)) (ci := 6) (v := .ref m4) (C := RX5) (T := TX5) (N := 27) hx hb hts (by decide +kernel) hown hK hP 0 rfl rfl 11 (by decide) (hts (.fieldLink RX5 19 "CobolDebuggerModel" "more" "[J") (by decide +kernel)) (fun _ h9 => h9) rfl dX5_step_41 ?_
        refine lv_iload_n hx hb dX5_step_44 rfl (lv_at hl 1 rfl) ?_
        refine lv_lload_n hx hb dX5_step_45 rfl (lv_at hl 3 rfl) ?_
        refine va_last hx hb hK hP hD hS 2 1 rfl rfl (i := st) hst9 dX5_step_46 (fun H locs hP hD hS => ?_)
        have hP : va_P (dC, dI) vwCl [(m0, .inr (6, [.int 0, .int ms, .int mi, .int mt, .int ma, .int mf, .int mk, .int mp, .ref m1, .ref m2, .ref m3, .ref m4, .ref m5, .ref m6, .ref m7, .ref m8, .ref m9, .ref m10, .ref m11, .ref m12, .ref m13, .ref m14, .ref m15, .ref m16, .ref m17, .ref m18, .ref m19])), (m3, .inl (km3, 102, .inl g_1)), (m4, .inl (km4, 102, .inr (.inl (vp_updL mmo st.toNatClampNeg v))))] H := hP
        have hD : va_D A [(m0, .inr (6, [.int 0, .int ms, .int mi, .int mt, .int ma, .int mf, .int mk, .int mp, .ref m1, .ref m2, .ref m3, .ref m4, .ref m5, .ref m6, .ref m7, .ref m8, .ref m9, .ref m10, .ref m11, .ref m12, .ref m13, .ref m14, .ref m15, .ref m16, .ref m17, .ref m18, .ref m19])), (m3, .inl (km3, 102, .inl g_1)), (m4, .inl (km4, 102, .inr (.inl (vp_updL mmo st.toNatClampNeg v))))] := hD
        obtain ⟨g_2, e_g_2⟩ : ∃ y, y = vp_updL mmo st.toNatClampNeg v := ⟨_, rfl⟩
        rw [← e_g_2] at hP hD
        refine lv_iconst (v := 1) hx hb dX5_step_47 (by decide) ?_
        exact W.iret (v := 1) hx hb hr (fun t ht hW => ⟨⟨1, (0, g_1, g_2), rfl, ⟨by unfold stepA; rw [if_neg hb9, if_neg (Int32.not_lt.mpr c_27)], fun _ _ _ _ _ h => mc_step h (sp_ge (Int32.not_lt.mpr c_27)) (by rw [i_lt] at c_18; exact c_18) e_g_1⟩, by rw [ht]; exact hP, hD⟩, hS.F ht⟩) hS.2.2 dX5_step_48
      · refine lv_bipush (v := (-4)) hx hb dX5_step_30 (by decide) ?_
        exact W.iret (v := (-4)) hx hb hr (fun t ht hW => ⟨⟨(-4), (0, mds, mmo), rfl, ⟨by unfold stepA; rw [if_neg hb9, if_pos (Int32.not_le.mp c_27)], fun _ _ _ _ _ h => h⟩, by rw [ht]; exact hP, hD⟩, hS.F ht⟩) hS.2.2 dX5_step_32
    · refine lv_bipush (v := (-2)) hx hb dX5_step_21 (by decide) ?_
      exact W.iret (v := (-2)) hx hb hr (fun t ht hW => ⟨⟨(-2), (0, mds, mmo), rfl, ⟨by unfold stepA; rw [if_pos (Or.inr (Or.inr (Int32.not_lt.mp c_18)))], fun _ _ _ _ _ h => h⟩, by rw [ht]; exact hP, hD⟩, hS.F ht⟩) hS.2.2 dX5_step_23

set_option maxHeartbeats 4000000 in
set_option maxRecDepth 100000 in
theorem g_X5_stop (l : Launch) (dC : Nat → ClassId) (dI : Nat → Nat → Nat) (sz : Nat) (m0 m1 m2 m3 m4 m5 m6 m7 m8 m9 m10 m11 m12 m13 m14 m15 m16 m17 m18 m19 : Nat) (km8 km9 km10 : ClassId) (mkd mof mcd : Nat → Int32) (ce ms mi mt ma mf mk mp : Int32) (kn : Int32) (oo : Int32) (co : Int32) (ht0 : 0 ≤ mt.toInt) (ht1 : mt.toInt ≤ 20) : Met l yX5_stop wsX5_stop ({ frames := 1, cells := 0, slots := 0, locals := 21 }) (va_Pc [.ref m0, .int kn, .int oo, .int co] (fun U => U.heap.size = sz ∧ va_P (dC, dI) vwCl [(m0, .inr (6, [.int ce, .int ms, .int mi, .int mt, .int ma, .int mf, .int mk, .int mp, .ref m1, .ref m2, .ref m3, .ref m4, .ref m5, .ref m6, .ref m7, .ref m8, .ref m9, .ref m10, .ref m11, .ref m12, .ref m13, .ref m14, .ref m15, .ref m16, .ref m17, .ref m18, .ref m19])), (m8, .inl (km8, 21, .inl mkd)), (m9, .inl (km9, 21, .inl mof)), (m10, .inl (km10, 21, .inl mcd))] U.heap ∧ va_K (dC, dI) vwCl [(km8, .int), (km9, .int), (km10, .int)] U ∧ va_D (fun _ => True) [(m0, .inr (6, [.int ce, .int ms, .int mi, .int mt, .int ma, .int mf, .int mk, .int mp, .ref m1, .ref m2, .ref m3, .ref m4, .ref m5, .ref m6, .ref m7, .ref m8, .ref m9, .ref m10, .ref m11, .ref m12, .ref m13, .ref m14, .ref m15, .ref m16, .ref m17, .ref m18, .ref m19])), (m8, .inl (km8, 21, .inl mkd)), (m9, .inl (km9, 21, .inl mof)), (m10, .inl (km10, 21, .inl mcd))])) (va_Qi (fun (r : Int32) (u : Int32 × Int32 × (Nat → Int32) × (Nat → Int32) × (Nat → Int32)) => r = stopA mi mt kn oo ∧ (stopOk mi mt kn oo → (u.2.1) = mt + 1 ∧ (u.2.2.1) = upd mkd (u.2.1).toNatClampNeg kn ∧ (u.2.2.2.1) = upd mof (u.2.1).toNatClampNeg oo ∧ (u.2.2.2.2) = upd mcd (u.2.1).toNatClampNeg co) ∧ (¬ stopOk mi mt kn oo → (u.2.1) = mt ∧ (u.2.2.1) = mkd ∧ (u.2.2.2.1) = mof ∧ (u.2.2.2.2) = mcd) ∧ (∀ mpg mds mss, mcI ms mi mt mpg mds mss mkd mof → mcI ms mi (u.2.1) mpg mds mss (u.2.2.1) (u.2.2.2.1))) (fun (u : Int32 × Int32 × (Nat → Int32) × (Nat → Int32) × (Nat → Int32)) (t : State) => va_P (dC, dI) vwCl [(m0, .inr (6, [.int u.1, .int ms, .int mi, .int u.2.1, .int ma, .int mf, .int mk, .int mp, .ref m1, .ref m2, .ref m3, .ref m4, .ref m5, .ref m6, .ref m7, .ref m8, .ref m9, .ref m10, .ref m11, .ref m12, .ref m13, .ref m14, .ref m15, .ref m16, .ref m17, .ref m18, .ref m19])), (m8, .inl (km8, 21, .inl u.2.2.1)), (m9, .inl (km9, 21, .inl u.2.2.2.1)), (m10, .inl (km10, 21, .inl u.2.2.2.2))] t.heap ∧ va_D (va_A [(m0, .inr (6, [.int ce, .int ms, .int mi, .int mt, .int ma, .int mf, .int mk, .int mp, .ref m1, .ref m2, .ref m3, .ref m4, .ref m5, .ref m6, .ref m7, .ref m8, .ref m9, .ref m10, .ref m11, .ref m12, .ref m13, .ref m14, .ref m15, .ref m16, .ref m17, .ref m18, .ref m19])), (m8, .inl (km8, 21, .inl mkd)), (m9, .inl (km9, 21, .inl mof)), (m10, .inl (km10, 21, .inl mcd))] sz) [(m0, .inr (6, [.int u.1, .int ms, .int mi, .int u.2.1, .int ma, .int mf, .int mk, .int mp, .ref m1, .ref m2, .ref m3, .ref m4, .ref m5, .ref m6, .ref m7, .ref m8, .ref m9, .ref m10, .ref m11, .ref m12, .ref m13, .ref m14, .ref m15, .ref m16, .ref m17, .ref m18, .ref m19])), (m8, .inl (km8, 21, .inl u.2.2.1)), (m9, .inl (km9, 21, .inl u.2.2.2.1)), (m10, .inl (km10, 21, .inl u.2.2.2.2))]) (va_A [(m0, .inr (6, [.int ce, .int ms, .int mi, .int mt, .int ma, .int mf, .int mk, .int mp, .ref m1, .ref m2, .ref m3, .ref m4, .ref m5, .ref m6, .ref m7, .ref m8, .ref m9, .ref m10, .ref m11, .ref m12, .ref m13, .ref m14, .ref m15, .ref m16, .ref m17, .ref m18, .ref m19])), (m8, .inl (km8, 21, .inl mkd)), (m9, .inl (km9, 21, .inl mof)), (m10, .inl (km10, 21, .inl mcd))] sz)) 0 0 (va_A [(m0, .inr (6, [.int ce, .int ms, .int mi, .int mt, .int ma, .int mf, .int mk, .int mp, .ref m1, .ref m2, .ref m3, .ref m4, .ref m5, .ref m6, .ref m7, .ref m8, .ref m9, .ref m10, .ref m11, .ref m12, .ref m13, .ref m14, .ref m15, .ref m16, .ref m17, .ref m18, .ref m19])), (m8, .inl (km8, 21, .inl mkd)), (m9, .inl (km9, 21, .inl mof)), (m10, .inl (km10, 21, .inl mcd))] sz) := by
  refine Met.ofW (cc := cX5_stop) (maxL := 4) (ret := (some .int)) (by decide) rfl ?_
  intro p e s m args below meth c s₁ B hml hv
  obtain ⟨rfl, hsz, hP, hK, hD0⟩ := hv
  have hx := B.exec
  have hb := B.bytes
  have hr := B.returns
  have hts := atoms_spec (ws := wsX5_stop) B.pre
  have hown : s.vm.findClass RX5 = some m.cls := findClass_of_methodNamed B.named
  have hlocks := B.notSynchronized
  subst hsz
  have hD := hD0.self (sz := s.heap.size)
  generalize hAe : va_A [(m0, .inr (6, [.int ce, .int ms, .int mi, .int mt, .int ma, .int mf, .int mk, .int mp, .ref m1, .ref m2, .ref m3, .ref m4, .ref m5, .ref m6, .ref m7, .ref m8, .ref m9, .ref m10, .ref m11, .ref m12, .ref m13, .ref m14, .ref m15, .ref m16, .ref m17, .ref m18, .ref m19])), (m8, .inl (km8, 21, .inl mkd)), (m9, .inl (km9, 21, .inl mof)), (m10, .inl (km10, 21, .inl mcd))] s.heap.size = A at hD ⊢
  have hA : ∀ q : Nat, s.heap.size ≤ q → A q := fun q h => by rw [← hAe]; exact Or.inr h
  have hS : va_S A s.heap s.heap [] := va_S.rf
  have hl := lv_entry ([.ref m0, .int kn, .int oo, .int co]) (n := 4) (Nat.le_of_ble_eq_true rfl)
  rw [lg_entry_eq]
  generalize (lg_sl ([.ref m0, .int kn, .int oo, .int co]) ++ List.replicate (4 - (lg_sl ([.ref m0, .int kn, .int oo, .int co])).length) Slot.unset).toArray = ls at hl ⊢
  have hl : lv_has ls 4 [(0, .ref m0), (1, .int kn), (2, .int oo), (3, .int co)] := hl
  refine lv_aload_n hx hb dX5_stop_0 rfl (lv_at hl 0 rfl) ?_
  refine lv_iconst (v := 0) hx hb dX5_stop_1 (by decide) ?_
  refine va_put (D := (dC, dI)) (ci := 6) (v := .int 0) (ty := .int) (C := RX5) (T := TX5) (N := 27) hx hb hts (by decide +kernel) tyX5 tyX5_ok nmX5 hown hK hP hD hS 0 rfl rfl 0 (by decide) (hts (.fieldLink RX5 69 "CobolDebuggerModel" "code" "I") (by decide +kernel)) (fun _ h9 => h9) rfl (by decide +kernel) rfl rfl (Nat.le_of_ble_eq_true rfl) dX5_stop_2 (fun H locs hP hD hS => ?_)
  have hP : va_P (dC, dI) vwCl [(m0, .inr (6, [.int 0, .int ms, .int mi, .int mt, .int ma, .int mf, .int mk, .int mp, .ref m1, .ref m2, .ref m3, .ref m4, .ref m5, .ref m6, .ref m7, .ref m8, .ref m9, .ref m10, .ref m11, .ref m12, .ref m13, .ref m14, .ref m15, .ref m16, .ref m17, .ref m18, .ref m19])), (m8, .inl (km8, 21, .inl mkd)), (m9, .inl (km9, 21, .inl mof)), (m10, .inl (km10, 21, .inl mcd))] H := hP
  have hD : va_D A [(m0, .inr (6, [.int 0, .int ms, .int mi, .int mt, .int ma, .int mf, .int mk, .int mp, .ref m1, .ref m2, .ref m3, .ref m4, .ref m5, .ref m6, .ref m7, .ref m8, .ref m9, .ref m10, .ref m11, .ref m12, .ref m13, .ref m14, .ref m15, .ref m16, .ref m17, .ref m18, .ref m19])), (m8, .inl (km8, 21, .inl mkd)), (m9, .inl (km9, 21, .inl mof)), (m10, .inl (km10, 21, .inl mcd))] := hD
  refine lv_iload_n hx hb dX5_stop_5 rfl (lv_at hl 1 rfl) ?_
  refine lv_if_lt (tgt := 14) hx hb dX5_stop_6 (by decide) (fun c_6 => ?_) (fun c_6 => ?_)
  · refine lv_bipush (v := (-4)) hx hb dX5_stop_14 (by decide) ?_
    exact W.iret (v := (-4)) hx hb hr (fun t ht hW => ⟨⟨(-4), (0, mt, mkd, mof, mcd), rfl, ⟨by unfold stopA; rw [if_pos (Or.inl c_6)], fun h => absurd (Or.inl c_6) h.1, fun _ => ⟨rfl, rfl, rfl, rfl⟩, fun _ _ _ h => h⟩, by rw [ht]; exact hP, hD⟩, hS.F ht⟩) hS.2.2 dX5_stop_16
  · refine lv_iload_n hx hb dX5_stop_9 rfl (lv_at hl 1 rfl) ?_
    refine lv_iconst (v := 4) hx hb dX5_stop_10 (by decide) ?_
    refine lv_icmp_le (tgt := 17) hx hb dX5_stop_11 (by decide) (fun c_11 => ?_) (fun c_11 => ?_)
    · refine lv_iload_n hx hb dX5_stop_17 rfl (lv_at hl 1 rfl) ?_
      refine lv_iconst (v := 2) hx hb dX5_stop_18 (by decide) ?_
      refine lv_icmp_eq (tgt := 27) hx hb dX5_stop_19 (by decide) (fun c_19 => ?_) (fun c_19 => ?_)
      · refine lv_aload_n hx hb dX5_stop_27 rfl (lv_at hl 0 rfl) ?_
        refine lv_iload_n hx hb dX5_stop_28 rfl (lv_at hl 2 rfl) ?_
        have hPc := hP.sub (ws' := [(m0, .inr (6, [.int 0, .int ms, .int mi, .int mt, .int ma, .int mf, .int mk, .int mp, .ref m1, .ref m2, .ref m3, .ref m4, .ref m5, .ref m6, .ref m7, .ref m8, .ref m9, .ref m10, .ref m11, .ref m12, .ref m13, .ref m14, .ref m15, .ref m16, .ref m17, .ref m18, .ref m19]))]) [0] rfl
        have hKc := hK.sub (tys' := []) [] rfl
        refine va_calli (va_runV (As := [.int oo]) (rest := []) ⟨hx, hb, hml, hown, hts⟩ (c_X5_isItem l dC dI m0 m1 m2 m3 m4 m5 m6 m7 m8 m9 m10 m11 m12 m13 m14 m15 m16 m17 m18 m19 0 ms mi mt ma mf mk mp oo) (cwV 1 hts gX5_stop_X5_isItem rfl rfl rfl (by decide +kernel) ⟨Nat.le_of_ble_eq_true rfl, Nat.le_of_ble_eq_true rfl⟩) ⟨fun a U g mk q => by obtain ⟨q0, qP, qK⟩ := q; exact ⟨q0, qP, va_K.moved (u := U) (U := U.calling g mk a) (Vm.Alike.refl U.vm) qK⟩, va_recv hKc hPc (ci := 6) (q0 := 0) rfl rfl, fun U hU hW => ⟨rfl, by rw [hU]; exact hPc, va_K.moved hW.alike hKc⟩⟩ rfl rfl hl.1 rfl (lv_room (Nat.le_of_ble_eq_true rfl)) dX5_stop_29 ⟨Nat.zero_le _, Nat.zero_le _⟩) hS (fun q _ h => h.elim) (fun q h => h.elim) (fun r_29 u t H1 locs ht hvm w_29 hB hz1 hk1 hS => ?_)
        try dsimp only at w_29
        have hP := rd_keep hP hk1
        clear hB hk1 hz1 ht hvm u t
        generalize H1 = H at hP hS ⊢
        have w_29 := z01 w_29
        refine lv_if_ne (tgt := 38) hx hb dX5_stop_32 (by decide) (fun c_32 => ?_) (fun c_32 => ?_)
        · refine lv_aload_n hx hb dX5_stop_38 rfl (lv_at hl 0 rfl) ?_
          refine va_get (D := (dC, dI)) (ci := 6) (v := .int mt) (C := RX5) (T := TX5) (N := 27) hx hb hts (by decide +kernel) hown hK hP 0 rfl rfl 3 (by decide) (hts (.fieldLink RX5 89 "CobolDebuggerModel" "stops" "I") (by decide +kernel)) (fun _ h9 => h9) rfl dX5_stop_39 ?_
          refine lv_bipush (v := 20) hx hb dX5_stop_42 (by decide) ?_
          refine lv_icmp_ne (tgt := 49) hx hb dX5_stop_44 (by decide) (fun c_44 => ?_) (fun c_44 => ?_)
          · have hlt : mt < 20 := i_c mt 20 20 (by decide) ht1 c_44
            refine lv_aload_n hx hb dX5_stop_49 rfl (lv_at hl 0 rfl) ?_
            refine lv_dup hx hb dX5_stop_50 rfl ?_
            refine va_get (D := (dC, dI)) (ci := 6) (v := .int mt) (C := RX5) (T := TX5) (N := 27) hx hb hts (by decide +kernel) hown hK hP 0 rfl rfl 3 (by decide) (hts (.fieldLink RX5 89 "CobolDebuggerModel" "stops" "I") (by decide +kernel)) (fun _ h9 => h9) rfl dX5_stop_51 ?_
            refine lv_iconst (v := 1) hx hb dX5_stop_54 (by decide) ?_
            refine lv_iadd hx hb dX5_stop_55 ?_
            refine lv_topi (fun v_1 e_v_1 => ?_)
            refine va_put (D := (dC, dI)) (ci := 6) (v := .int v_1) (ty := .int) (C := RX5) (T := TX5) (N := 27) hx hb hts (by decide +kernel) tyX5 tyX5_ok nmX5 hown hK hP hD hS 0 rfl rfl 3 (by decide) (hts (.fieldLink RX5 89 "CobolDebuggerModel" "stops" "I") (by decide +kernel)) (fun _ h9 => h9) rfl (by decide +kernel) rfl rfl (Nat.le_of_ble_eq_true rfl) dX5_stop_56 (fun H locs hP hD hS => ?_)
            have hP : va_P (dC, dI) vwCl [(m0, .inr (6, [.int 0, .int ms, .int mi, .int v_1, .int ma, .int mf, .int mk, .int mp, .ref m1, .ref m2, .ref m3, .ref m4, .ref m5, .ref m6, .ref m7, .ref m8, .ref m9, .ref m10, .ref m11, .ref m12, .ref m13, .ref m14, .ref m15, .ref m16, .ref m17, .ref m18, .ref m19])), (m8, .inl (km8, 21, .inl mkd)), (m9, .inl (km9, 21, .inl mof)), (m10, .inl (km10, 21, .inl mcd))] H := hP
            have hD : va_D A [(m0, .inr (6, [.int 0, .int ms, .int mi, .int v_1, .int ma, .int mf, .int mk, .int mp, .ref m1, .ref m2, .ref m3, .ref m4, .ref m5, .ref m6, .ref m7, .ref m8, .ref m9, .ref m10, .ref m11, .ref m12, .ref m13, .ref m14, .ref m15, .ref m16, .ref m17, .ref m18, .ref m19])), (m8, .inl (km8, 21, .inl mkd)), (m9, .inl (km9, 21, .inl mof)), (m10, .inl (km10, 21, .inl mcd))] := hD
            have hsn : vp_in v_1 21 := by rw [e_v_1]; exact ix_n1 20 ht0 hlt (by decide) (by decide)
            refine lv_aload_n hx hb dX5_stop_59 rfl (lv_at hl 0 rfl) ?_
            refine va_get (D := (dC, dI)) (ci := 6) (v := .ref m8) (C := RX5) (T := TX5) (N := 27) hx hb hts (by decide +kernel) hown hK hP 0 rfl rfl 15 (by decide) (hts (.fieldLink RX5 33 "CobolDebuggerModel" "stopKinds" "[I") (by decide +kernel)) (fun _ h9 => h9) rfl dX5_stop_60 ?_
            refine lv_aload_n hx hb dX5_stop_63 rfl (lv_at hl 0 rfl) ?_
            refine va_get (D := (dC, dI)) (ci := 6) (v := .int v_1) (C := RX5) (T := TX5) (N := 27) hx hb hts (by decide +kernel) hown hK hP 0 rfl rfl 3 (by decide) (hts (.fieldLink RX5 89 "CobolDebuggerModel" "stops" "I") (by decide +kernel)) (fun _ h9 => h9) rfl dX5_stop_64 ?_
            refine lv_iload_n hx hb dX5_stop_67 rfl (lv_at hl 1 rfl) ?_
            refine va_iast hx hb hK hP hD hS 1 0 rfl rfl (i := v_1) hsn dX5_stop_68 (fun H locs hP hD hS => ?_)
            have hP : va_P (dC, dI) vwCl [(m0, .inr (6, [.int 0, .int ms, .int mi, .int v_1, .int ma, .int mf, .int mk, .int mp, .ref m1, .ref m2, .ref m3, .ref m4, .ref m5, .ref m6, .ref m7, .ref m8, .ref m9, .ref m10, .ref m11, .ref m12, .ref m13, .ref m14, .ref m15, .ref m16, .ref m17, .ref m18, .ref m19])), (m8, .inl (km8, 21, .inl (upd mkd v_1.toNatClampNeg kn))), (m9, .inl (km9, 21, .inl mof)), (m10, .inl (km10, 21, .inl mcd))] H := hP
            have hD : va_D A [(m0, .inr (6, [.int 0, .int ms, .int mi, .int v_1, .int ma, .int mf, .int mk, .int mp, .ref m1, .ref m2, .ref m3, .ref m4, .ref m5, .ref m6, .ref m7, .ref m8, .ref m9, .ref m10, .ref m11, .ref m12, .ref m13, .ref m14, .ref m15, .ref m16, .ref m17, .ref m18, .ref m19])), (m8, .inl (km8, 21, .inl (upd mkd v_1.toNatClampNeg kn))), (m9, .inl (km9, 21, .inl mof)), (m10, .inl (km10, 21, .inl mcd))] := hD
            obtain ⟨g_2, e_g_2⟩ : ∃ y, y = upd mkd v_1.toNatClampNeg kn := ⟨_, rfl⟩
            rw [← e_g_2] at hP hD
            refine lv_aload_n hx hb dX5_stop_69 rfl (lv_at hl 0 rfl) ?_
            refine va_get (D := (dC, dI)) (ci := 6) (v := .ref m9) (C := RX5) (T := TX5) (N := 27) hx hb hts (by decide +kernel) hown hK hP 0 rfl rfl 16 (by decide) (hts (.fieldLink RX5 36 "CobolDebuggerModel" "ofs" "[I") (by decide +kernel)) (fun _ h9 => h9) rfl dX5_stop_70 ?_
            refine lv_aload_n hx hb dX5_stop_73 rfl (lv_at hl 0 rfl) ?_
            refine va_get (D := (dC, dI)) (ci := 6) (v := .int v_1) (C := RX5) (T := TX5) (N := 27) hx hb hts (by decide +kernel) hown hK hP 0 rfl rfl 3 (by decide) (hts (.fieldLink RX5 89 "CobolDebuggerModel" "stops" "I") (by decide +kernel)) (fun _ h9 => h9) rfl dX5_stop_74 ?_
            refine lv_iload_n hx hb dX5_stop_77 rfl (lv_at hl 2 rfl) ?_
            refine va_iast hx hb hK hP hD hS 2 1 rfl rfl (i := v_1) hsn dX5_stop_78 (fun H locs hP hD hS => ?_)
            have hP : va_P (dC, dI) vwCl [(m0, .inr (6, [.int 0, .int ms, .int mi, .int v_1, .int ma, .int mf, .int mk, .int mp, .ref m1, .ref m2, .ref m3, .ref m4, .ref m5, .ref m6, .ref m7, .ref m8, .ref m9, .ref m10, .ref m11, .ref m12, .ref m13, .ref m14, .ref m15, .ref m16, .ref m17, .ref m18, .ref m19])), (m8, .inl (km8, 21, .inl g_2)), (m9, .inl (km9, 21, .inl (upd mof v_1.toNatClampNeg oo))), (m10, .inl (km10, 21, .inl mcd))] H := hP
            have hD : va_D A [(m0, .inr (6, [.int 0, .int ms, .int mi, .int v_1, .int ma, .int mf, .int mk, .int mp, .ref m1, .ref m2, .ref m3, .ref m4, .ref m5, .ref m6, .ref m7, .ref m8, .ref m9, .ref m10, .ref m11, .ref m12, .ref m13, .ref m14, .ref m15, .ref m16, .ref m17, .ref m18, .ref m19])), (m8, .inl (km8, 21, .inl g_2)), (m9, .inl (km9, 21, .inl (upd mof v_1.toNatClampNeg oo))), (m10, .inl (km10, 21, .inl mcd))] := hD
            obtain ⟨g_3, e_g_3⟩ : ∃ y, y = upd mof v_1.toNatClampNeg oo := ⟨_, rfl⟩
            rw [← e_g_3] at hP hD
            refine lv_aload_n hx hb dX5_stop_79 rfl (lv_at hl 0 rfl) ?_
            refine va_get (D := (dC, dI)) (ci := 6) (v := .ref m10) (C := RX5) (T := TX5) (N := 27) hx hb hts (by decide +kernel) hown hK hP 0 rfl rfl 17 (by decide) (hts (.fieldLink RX5 39 "CobolDebuggerModel" "conditions" "[I") (by decide +kernel)) (fun _ h9 => h9) rfl dX5_stop_80 ?_
            refine lv_aload_n hx hb dX5_stop_83 rfl (lv_at hl 0 rfl) ?_
            refine va_get (D := (dC, dI)) (ci := 6) (v := .int v_1) (C := RX5) (T := TX5) (N := 27) hx hb hts (by decide +kernel) hown hK hP 0 rfl rfl 3 (by decide) (hts (.fieldLink RX5 89 "CobolDebuggerModel" "stops" "I") (by decide +kernel)) (fun _ h9 => h9) rfl dX5_stop_84 ?_
            refine lv_iload_n hx hb dX5_stop_87 rfl (lv_at hl 3 rfl) ?_
            refine va_iast hx hb hK hP hD hS 3 2 rfl rfl (i := v_1) hsn dX5_stop_88 (fun H locs hP hD hS => ?_)
            have hP : va_P (dC, dI) vwCl [(m0, .inr (6, [.int 0, .int ms, .int mi, .int v_1, .int ma, .int mf, .int mk, .int mp, .ref m1, .ref m2, .ref m3, .ref m4, .ref m5, .ref m6, .ref m7, .ref m8, .ref m9, .ref m10, .ref m11, .ref m12, .ref m13, .ref m14, .ref m15, .ref m16, .ref m17, .ref m18, .ref m19])), (m8, .inl (km8, 21, .inl g_2)), (m9, .inl (km9, 21, .inl g_3)), (m10, .inl (km10, 21, .inl (upd mcd v_1.toNatClampNeg co)))] H := hP
            have hD : va_D A [(m0, .inr (6, [.int 0, .int ms, .int mi, .int v_1, .int ma, .int mf, .int mk, .int mp, .ref m1, .ref m2, .ref m3, .ref m4, .ref m5, .ref m6, .ref m7, .ref m8, .ref m9, .ref m10, .ref m11, .ref m12, .ref m13, .ref m14, .ref m15, .ref m16, .ref m17, .ref m18, .ref m19])), (m8, .inl (km8, 21, .inl g_2)), (m9, .inl (km9, 21, .inl g_3)), (m10, .inl (km10, 21, .inl (upd mcd v_1.toNatClampNeg co)))] := hD
            obtain ⟨g_4, e_g_4⟩ : ∃ y, y = upd mcd v_1.toNatClampNeg co := ⟨_, rfl⟩
            rw [← e_g_4] at hP hD
            refine lv_aload_n hx hb dX5_stop_89 rfl (lv_at hl 0 rfl) ?_
            refine va_get (D := (dC, dI)) (ci := 6) (v := .int v_1) (C := RX5) (T := TX5) (N := 27) hx hb hts (by decide +kernel) hown hK hP 0 rfl rfl 3 (by decide) (hts (.fieldLink RX5 89 "CobolDebuggerModel" "stops" "I") (by decide +kernel)) (fun _ h9 => h9) rfl dX5_stop_90 ?_
            exact W.iret (v := v_1) hx hb hr (fun t ht hW => ⟨⟨v_1, (0, v_1, g_2, g_3, g_4), rfl, ⟨by unfold stopA; rw [if_neg (fun h => h.elim c_6 (fun h => (Int32.not_lt.mpr c_11) h)), if_neg (fun h => c_32 (w_29.mpr h.2)), if_pos hlt]; exact e_v_1, fun _ => ⟨e_v_1, e_g_2, e_g_3, e_g_4⟩, fun h => absurd ⟨(fun h => h.elim c_6 (fun h => (Int32.not_lt.mpr c_11) h)), (fun h => c_32 (w_29.mpr h.2)), hlt⟩ h, fun _ _ _ h => mc_stop h hlt (fun _ => ⟨i_n0 (fun h => c_32 (w_29.mpr (Or.inl h))), n_lt (fun h => c_32 (w_29.mpr (Or.inr h)))⟩) e_v_1 e_g_2 e_g_3⟩, by rw [ht]; exact hP, hD⟩, hS.F ht⟩) hS.2.2 dX5_stop_93
          · refine lv_iconst (v := (-1)) hx hb dX5_stop_47 (by decide) ?_
            exact W.iret (v := (-1)) hx hb hr (fun t ht hW => ⟨⟨(-1), (0, mt, mkd, mof, mcd), rfl, ⟨by unfold stopA; rw [if_neg (fun h => h.elim c_6 (fun h => (Int32.not_lt.mpr c_11) h)), if_neg (fun h => c_32 (w_29.mpr h.2)), if_neg (by rw [c_44]; decide)], fun h => absurd h.2.2 (by rw [c_44]; decide), fun _ => ⟨rfl, rfl, rfl, rfl⟩, fun _ _ _ h => h⟩, by rw [ht]; exact hP, hD⟩, hS.F ht⟩) hS.2.2 dX5_stop_48
        · refine lv_bipush (v := (-2)) hx hb dX5_stop_35 (by decide) ?_
          exact W.iret (v := (-2)) hx hb hr (fun t ht hW => ⟨⟨(-2), (0, mt, mkd, mof, mcd), rfl, ⟨by unfold stopA; rw [if_neg (fun h => h.elim c_6 (fun h => (Int32.not_lt.mpr c_11) h)), if_pos ⟨(Or.inl c_19), w_29.mp c_32⟩], fun h => absurd ⟨(Or.inl c_19), w_29.mp c_32⟩ h.2.1, fun _ => ⟨rfl, rfl, rfl, rfl⟩, fun _ _ _ h => h⟩, by rw [ht]; exact hP, hD⟩, hS.F ht⟩) hS.2.2 dX5_stop_37
      · refine lv_iload_n hx hb dX5_stop_22 rfl (lv_at hl 1 rfl) ?_
        refine lv_iconst (v := 3) hx hb dX5_stop_23 (by decide) ?_
        refine lv_icmp_ne (tgt := 38) hx hb dX5_stop_24 (by decide) (fun c_24 => ?_) (fun c_24 => ?_)
        · refine lv_aload_n hx hb dX5_stop_38 rfl (lv_at hl 0 rfl) ?_
          refine va_get (D := (dC, dI)) (ci := 6) (v := .int mt) (C := RX5) (T := TX5) (N := 27) hx hb hts (by decide +kernel) hown hK hP 0 rfl rfl 3 (by decide) (hts (.fieldLink RX5 89 "CobolDebuggerModel" "stops" "I") (by decide +kernel)) (fun _ h9 => h9) rfl dX5_stop_39 ?_
          refine lv_bipush (v := 20) hx hb dX5_stop_42 (by decide) ?_
          refine lv_icmp_ne (tgt := 49) hx hb dX5_stop_44 (by decide) (fun c_44 => ?_) (fun c_44 => ?_)
          · have hlt : mt < 20 := i_c mt 20 20 (by decide) ht1 c_44
            refine lv_aload_n hx hb dX5_stop_49 rfl (lv_at hl 0 rfl) ?_
            refine lv_dup hx hb dX5_stop_50 rfl ?_
            refine va_get (D := (dC, dI)) (ci := 6) (v := .int mt) (C := RX5) (T := TX5) (N := 27) hx hb hts (by decide +kernel) hown hK hP 0 rfl rfl 3 (by decide) (hts (.fieldLink RX5 89 "CobolDebuggerModel" "stops" "I") (by decide +kernel)) (fun _ h9 => h9) rfl dX5_stop_51 ?_
            refine lv_iconst (v := 1) hx hb dX5_stop_54 (by decide) ?_
            refine lv_iadd hx hb dX5_stop_55 ?_
            refine lv_topi (fun v_5 e_v_5 => ?_)
            refine va_put (D := (dC, dI)) (ci := 6) (v := .int v_5) (ty := .int) (C := RX5) (T := TX5) (N := 27) hx hb hts (by decide +kernel) tyX5 tyX5_ok nmX5 hown hK hP hD hS 0 rfl rfl 3 (by decide) (hts (.fieldLink RX5 89 "CobolDebuggerModel" "stops" "I") (by decide +kernel)) (fun _ h9 => h9) rfl (by decide +kernel) rfl rfl (Nat.le_of_ble_eq_true rfl) dX5_stop_56 (fun H locs hP hD hS => ?_)
            have hP : va_P (dC, dI) vwCl [(m0, .inr (6, [.int 0, .int ms, .int mi, .int v_5, .int ma, .int mf, .int mk, .int mp, .ref m1, .ref m2, .ref m3, .ref m4, .ref m5, .ref m6, .ref m7, .ref m8, .ref m9, .ref m10, .ref m11, .ref m12, .ref m13, .ref m14, .ref m15, .ref m16, .ref m17, .ref m18, .ref m19])), (m8, .inl (km8, 21, .inl mkd)), (m9, .inl (km9, 21, .inl mof)), (m10, .inl (km10, 21, .inl mcd))] H := hP
            have hD : va_D A [(m0, .inr (6, [.int 0, .int ms, .int mi, .int v_5, .int ma, .int mf, .int mk, .int mp, .ref m1, .ref m2, .ref m3, .ref m4, .ref m5, .ref m6, .ref m7, .ref m8, .ref m9, .ref m10, .ref m11, .ref m12, .ref m13, .ref m14, .ref m15, .ref m16, .ref m17, .ref m18, .ref m19])), (m8, .inl (km8, 21, .inl mkd)), (m9, .inl (km9, 21, .inl mof)), (m10, .inl (km10, 21, .inl mcd))] := hD
            have hsn : vp_in v_5 21 := by rw [e_v_5]; exact ix_n1 20 ht0 hlt (by decide) (by decide)
            refine lv_aload_n hx hb dX5_stop_59 rfl (lv_at hl 0 rfl) ?_
            refine va_get (D := (dC, dI)) (ci := 6) (v := .ref m8) (C := RX5) (T := TX5) (N := 27) hx hb hts (by decide +kernel) hown hK hP 0 rfl rfl 15 (by decide) (hts (.fieldLink RX5 33 "CobolDebuggerModel" "stopKinds" "[I") (by decide +kernel)) (fun _ h9 => h9) rfl dX5_stop_60 ?_
            refine lv_aload_n hx hb dX5_stop_63 rfl (lv_at hl 0 rfl) ?_
            refine va_get (D := (dC, dI)) (ci := 6) (v := .int v_5) (C := RX5) (T := TX5) (N := 27) hx hb hts (by decide +kernel) hown hK hP 0 rfl rfl 3 (by decide) (hts (.fieldLink RX5 89 "CobolDebuggerModel" "stops" "I") (by decide +kernel)) (fun _ h9 => h9) rfl dX5_stop_64 ?_
            refine lv_iload_n hx hb dX5_stop_67 rfl (lv_at hl 1 rfl) ?_
            refine va_iast hx hb hK hP hD hS 1 0 rfl rfl (i := v_5) hsn dX5_stop_68 (fun H locs hP hD hS => ?_)
            have hP : va_P (dC, dI) vwCl [(m0, .inr (6, [.int 0, .int ms, .int mi, .int v_5, .int ma, .int mf, .int mk, .int mp, .ref m1, .ref m2, .ref m3, .ref m4, .ref m5, .ref m6, .ref m7, .ref m8, .ref m9, .ref m10, .ref m11, .ref m12, .ref m13, .ref m14, .ref m15, .ref m16, .ref m17, .ref m18, .ref m19])), (m8, .inl (km8, 21, .inl (upd mkd v_5.toNatClampNeg kn))), (m9, .inl (km9, 21, .inl mof)), (m10, .inl (km10, 21, .inl mcd))] H := hP
            have hD : va_D A [(m0, .inr (6, [.int 0, .int ms, .int mi, .int v_5, .int ma, .int mf, .int mk, .int mp, .ref m1, .ref m2, .ref m3, .ref m4, .ref m5, .ref m6, .ref m7, .ref m8, .ref m9, .ref m10, .ref m11, .ref m12, .ref m13, .ref m14, .ref m15, .ref m16, .ref m17, .ref m18, .ref m19])), (m8, .inl (km8, 21, .inl (upd mkd v_5.toNatClampNeg kn))), (m9, .inl (km9, 21, .inl mof)), (m10, .inl (km10, 21, .inl mcd))] := hD
            obtain ⟨g_6, e_g_6⟩ : ∃ y, y = upd mkd v_5.toNatClampNeg kn := ⟨_, rfl⟩
            rw [← e_g_6] at hP hD
            refine lv_aload_n hx hb dX5_stop_69 rfl (lv_at hl 0 rfl) ?_
            refine va_get (D := (dC, dI)) (ci := 6) (v := .ref m9) (C := RX5) (T := TX5) (N := 27) hx hb hts (by decide +kernel) hown hK hP 0 rfl rfl 16 (by decide) (hts (.fieldLink RX5 36 "CobolDebuggerModel" "ofs" "[I") (by decide +kernel)) (fun _ h9 => h9) rfl dX5_stop_70 ?_
            refine lv_aload_n hx hb dX5_stop_73 rfl (lv_at hl 0 rfl) ?_
            refine va_get (D := (dC, dI)) (ci := 6) (v := .int v_5) (C := RX5) (T := TX5) (N := 27) hx hb hts (by decide +kernel) hown hK hP 0 rfl rfl 3 (by decide) (hts (.fieldLink RX5 89 "CobolDebuggerModel" "stops" "I") (by decide +kernel)) (fun _ h9 => h9) rfl dX5_stop_74 ?_
            refine lv_iload_n hx hb dX5_stop_77 rfl (lv_at hl 2 rfl) ?_
            refine va_iast hx hb hK hP hD hS 2 1 rfl rfl (i := v_5) hsn dX5_stop_78 (fun H locs hP hD hS => ?_)
            have hP : va_P (dC, dI) vwCl [(m0, .inr (6, [.int 0, .int ms, .int mi, .int v_5, .int ma, .int mf, .int mk, .int mp, .ref m1, .ref m2, .ref m3, .ref m4, .ref m5, .ref m6, .ref m7, .ref m8, .ref m9, .ref m10, .ref m11, .ref m12, .ref m13, .ref m14, .ref m15, .ref m16, .ref m17, .ref m18, .ref m19])), (m8, .inl (km8, 21, .inl g_6)), (m9, .inl (km9, 21, .inl (upd mof v_5.toNatClampNeg oo))), (m10, .inl (km10, 21, .inl mcd))] H := hP
            have hD : va_D A [(m0, .inr (6, [.int 0, .int ms, .int mi, .int v_5, .int ma, .int mf, .int mk, .int mp, .ref m1, .ref m2, .ref m3, .ref m4, .ref m5, .ref m6, .ref m7, .ref m8, .ref m9, .ref m10, .ref m11, .ref m12, .ref m13, .ref m14, .ref m15, .ref m16, .ref m17, .ref m18, .ref m19])), (m8, .inl (km8, 21, .inl g_6)), (m9, .inl (km9, 21, .inl (upd mof v_5.toNatClampNeg oo))), (m10, .inl (km10, 21, .inl mcd))] := hD
            obtain ⟨g_7, e_g_7⟩ : ∃ y, y = upd mof v_5.toNatClampNeg oo := ⟨_, rfl⟩
            rw [← e_g_7] at hP hD
            refine lv_aload_n hx hb dX5_stop_79 rfl (lv_at hl 0 rfl) ?_
            refine va_get (D := (dC, dI)) (ci := 6) (v := .ref m10) (C := RX5) (T := TX5) (N := 27) hx hb hts (by decide +kernel) hown hK hP 0 rfl rfl 17 (by decide) (hts (.fieldLink RX5 39 "CobolDebuggerModel" "conditions" "[I") (by decide +kernel)) (fun _ h9 => h9) rfl dX5_stop_80 ?_
            refine lv_aload_n hx hb dX5_stop_83 rfl (lv_at hl 0 rfl) ?_
            refine va_get (D := (dC, dI)) (ci := 6) (v := .int v_5) (C := RX5) (T := TX5) (N := 27) hx hb hts (by decide +kernel) hown hK hP 0 rfl rfl 3 (by decide) (hts (.fieldLink RX5 89 "CobolDebuggerModel" "stops" "I") (by decide +kernel)) (fun _ h9 => h9) rfl dX5_stop_84 ?_
            refine lv_iload_n hx hb dX5_stop_87 rfl (lv_at hl 3 rfl) ?_
            refine va_iast hx hb hK hP hD hS 3 2 rfl rfl (i := v_5) hsn dX5_stop_88 (fun H locs hP hD hS => ?_)
            have hP : va_P (dC, dI) vwCl [(m0, .inr (6, [.int 0, .int ms, .int mi, .int v_5, .int ma, .int mf, .int mk, .int mp, .ref m1, .ref m2, .ref m3, .ref m4, .ref m5, .ref m6, .ref m7, .ref m8, .ref m9, .ref m10, .ref m11, .ref m12, .ref m13, .ref m14, .ref m15, .ref m16, .ref m17, .ref m18, .ref m19])), (m8, .inl (km8, 21, .inl g_6)), (m9, .inl (km9, 21, .inl g_7)), (m10, .inl (km10, 21, .inl (upd mcd v_5.toNatClampNeg co)))] H := hP
            have hD : va_D A [(m0, .inr (6, [.int 0, .int ms, .int mi, .int v_5, .int ma, .int mf, .int mk, .int mp, .ref m1, .ref m2, .ref m3, .ref m4, .ref m5, .ref m6, .ref m7, .ref m8, .ref m9, .ref m10, .ref m11, .ref m12, .ref m13, .ref m14, .ref m15, .ref m16, .ref m17, .ref m18, .ref m19])), (m8, .inl (km8, 21, .inl g_6)), (m9, .inl (km9, 21, .inl g_7)), (m10, .inl (km10, 21, .inl (upd mcd v_5.toNatClampNeg co)))] := hD
            obtain ⟨g_8, e_g_8⟩ : ∃ y, y = upd mcd v_5.toNatClampNeg co := ⟨_, rfl⟩
            rw [← e_g_8] at hP hD
            refine lv_aload_n hx hb dX5_stop_89 rfl (lv_at hl 0 rfl) ?_
            refine va_get (D := (dC, dI)) (ci := 6) (v := .int v_5) (C := RX5) (T := TX5) (N := 27) hx hb hts (by decide +kernel) hown hK hP 0 rfl rfl 3 (by decide) (hts (.fieldLink RX5 89 "CobolDebuggerModel" "stops" "I") (by decide +kernel)) (fun _ h9 => h9) rfl dX5_stop_90 ?_
            exact W.iret (v := v_5) hx hb hr (fun t ht hW => ⟨⟨v_5, (0, v_5, g_6, g_7, g_8), rfl, ⟨by unfold stopA; rw [if_neg (fun h => h.elim c_6 (fun h => (Int32.not_lt.mpr c_11) h)), if_neg (fun h => h.1.elim c_19 c_24), if_pos hlt]; exact e_v_5, fun _ => ⟨e_v_5, e_g_6, e_g_7, e_g_8⟩, fun h => absurd ⟨(fun h => h.elim c_6 (fun h => (Int32.not_lt.mpr c_11) h)), (fun h => h.1.elim c_19 c_24), hlt⟩ h, fun _ _ _ h => mc_stop h hlt (fun h => absurd h c_24) e_v_5 e_g_6 e_g_7⟩, by rw [ht]; exact hP, hD⟩, hS.F ht⟩) hS.2.2 dX5_stop_93
          · refine lv_iconst (v := (-1)) hx hb dX5_stop_47 (by decide) ?_
            exact W.iret (v := (-1)) hx hb hr (fun t ht hW => ⟨⟨(-1), (0, mt, mkd, mof, mcd), rfl, ⟨by unfold stopA; rw [if_neg (fun h => h.elim c_6 (fun h => (Int32.not_lt.mpr c_11) h)), if_neg (fun h => h.1.elim c_19 c_24), if_neg (by rw [c_44]; decide)], fun h => absurd h.2.2 (by rw [c_44]; decide), fun _ => ⟨rfl, rfl, rfl, rfl⟩, fun _ _ _ h => h⟩, by rw [ht]; exact hP, hD⟩, hS.F ht⟩) hS.2.2 dX5_stop_48
        · refine lv_aload_n hx hb dX5_stop_27 rfl (lv_at hl 0 rfl) ?_
          refine lv_iload_n hx hb dX5_stop_28 rfl (lv_at hl 2 rfl) ?_
          have hPc := hP.sub (ws' := [(m0, .inr (6, [.int 0, .int ms, .int mi, .int mt, .int ma, .int mf, .int mk, .int mp, .ref m1, .ref m2, .ref m3, .ref m4, .ref m5, .ref m6, .ref m7, .ref m8, .ref m9, .ref m10, .ref m11, .ref m12, .ref m13, .ref m14, .ref m15, .ref m16, .ref m17, .ref m18, .ref m19]))]) [0] rfl
          have hKc := hK.sub (tys' := []) [] rfl
          refine va_calli (va_runV (As := [.int oo]) (rest := []) ⟨hx, hb, hml, hown, hts⟩ (c_X5_isItem l dC dI m0 m1 m2 m3 m4 m5 m6 m7 m8 m9 m10 m11 m12 m13 m14 m15 m16 m17 m18 m19 0 ms mi mt ma mf mk mp oo) (cwV 1 hts gX5_stop_X5_isItem rfl rfl rfl (by decide +kernel) ⟨Nat.le_of_ble_eq_true rfl, Nat.le_of_ble_eq_true rfl⟩) ⟨fun a U g mk q => by obtain ⟨q0, qP, qK⟩ := q; exact ⟨q0, qP, va_K.moved (u := U) (U := U.calling g mk a) (Vm.Alike.refl U.vm) qK⟩, va_recv hKc hPc (ci := 6) (q0 := 0) rfl rfl, fun U hU hW => ⟨rfl, by rw [hU]; exact hPc, va_K.moved hW.alike hKc⟩⟩ rfl rfl hl.1 rfl (lv_room (Nat.le_of_ble_eq_true rfl)) dX5_stop_29 ⟨Nat.zero_le _, Nat.zero_le _⟩) hS (fun q _ h => h.elim) (fun q h => h.elim) (fun r_29 u t H1 locs ht hvm w_29 hB hz1 hk1 hS => ?_)
          try dsimp only at w_29
          have hP := rd_keep hP hk1
          clear hB hk1 hz1 ht hvm u t
          generalize H1 = H at hP hS ⊢
          have w_29 := z01 w_29
          refine lv_if_ne (tgt := 38) hx hb dX5_stop_32 (by decide) (fun c_32 => ?_) (fun c_32 => ?_)
          · refine lv_aload_n hx hb dX5_stop_38 rfl (lv_at hl 0 rfl) ?_
            refine va_get (D := (dC, dI)) (ci := 6) (v := .int mt) (C := RX5) (T := TX5) (N := 27) hx hb hts (by decide +kernel) hown hK hP 0 rfl rfl 3 (by decide) (hts (.fieldLink RX5 89 "CobolDebuggerModel" "stops" "I") (by decide +kernel)) (fun _ h9 => h9) rfl dX5_stop_39 ?_
            refine lv_bipush (v := 20) hx hb dX5_stop_42 (by decide) ?_
            refine lv_icmp_ne (tgt := 49) hx hb dX5_stop_44 (by decide) (fun c_44 => ?_) (fun c_44 => ?_)
            · have hlt : mt < 20 := i_c mt 20 20 (by decide) ht1 c_44
              refine lv_aload_n hx hb dX5_stop_49 rfl (lv_at hl 0 rfl) ?_
              refine lv_dup hx hb dX5_stop_50 rfl ?_
              refine va_get (D := (dC, dI)) (ci := 6) (v := .int mt) (C := RX5) (T := TX5) (N := 27) hx hb hts (by decide +kernel) hown hK hP 0 rfl rfl 3 (by decide) (hts (.fieldLink RX5 89 "CobolDebuggerModel" "stops" "I") (by decide +kernel)) (fun _ h9 => h9) rfl dX5_stop_51 ?_
              refine lv_iconst (v := 1) hx hb dX5_stop_54 (by decide) ?_
              refine lv_iadd hx hb dX5_stop_55 ?_
              refine lv_topi (fun v_9 e_v_9 => ?_)
              refine va_put (D := (dC, dI)) (ci := 6) (v := .int v_9) (ty := .int) (C := RX5) (T := TX5) (N := 27) hx hb hts (by decide +kernel) tyX5 tyX5_ok nmX5 hown hK hP hD hS 0 rfl rfl 3 (by decide) (hts (.fieldLink RX5 89 "CobolDebuggerModel" "stops" "I") (by decide +kernel)) (fun _ h9 => h9) rfl (by decide +kernel) rfl rfl (Nat.le_of_ble_eq_true rfl) dX5_stop_56 (fun H locs hP hD hS => ?_)
              have hP : va_P (dC, dI) vwCl [(m0, .inr (6, [.int 0, .int ms, .int mi, .int v_9, .int ma, .int mf, .int mk, .int mp, .ref m1, .ref m2, .ref m3, .ref m4, .ref m5, .ref m6, .ref m7, .ref m8, .ref m9, .ref m10, .ref m11, .ref m12, .ref m13, .ref m14, .ref m15, .ref m16, .ref m17, .ref m18, .ref m19])), (m8, .inl (km8, 21, .inl mkd)), (m9, .inl (km9, 21, .inl mof)), (m10, .inl (km10, 21, .inl mcd))] H := hP
              have hD : va_D A [(m0, .inr (6, [.int 0, .int ms, .int mi, .int v_9, .int ma, .int mf, .int mk, .int mp, .ref m1, .ref m2, .ref m3, .ref m4, .ref m5, .ref m6, .ref m7, .ref m8, .ref m9, .ref m10, .ref m11, .ref m12, .ref m13, .ref m14, .ref m15, .ref m16, .ref m17, .ref m18, .ref m19])), (m8, .inl (km8, 21, .inl mkd)), (m9, .inl (km9, 21, .inl mof)), (m10, .inl (km10, 21, .inl mcd))] := hD
              have hsn : vp_in v_9 21 := by rw [e_v_9]; exact ix_n1 20 ht0 hlt (by decide) (by decide)
              refine lv_aload_n hx hb dX5_stop_59 rfl (lv_at hl 0 rfl) ?_
              refine va_get (D := (dC, dI)) (ci := 6) (v := .ref m8) (C := RX5) (T := TX5) (N := 27) hx hb hts (by decide +kernel) hown hK hP 0 rfl rfl 15 (by decide) (hts (.fieldLink RX5 33 "CobolDebuggerModel" "stopKinds" "[I") (by decide +kernel)) (fun _ h9 => h9) rfl dX5_stop_60 ?_
              refine lv_aload_n hx hb dX5_stop_63 rfl (lv_at hl 0 rfl) ?_
              refine va_get (D := (dC, dI)) (ci := 6) (v := .int v_9) (C := RX5) (T := TX5) (N := 27) hx hb hts (by decide +kernel) hown hK hP 0 rfl rfl 3 (by decide) (hts (.fieldLink RX5 89 "CobolDebuggerModel" "stops" "I") (by decide +kernel)) (fun _ h9 => h9) rfl dX5_stop_64 ?_
              refine lv_iload_n hx hb dX5_stop_67 rfl (lv_at hl 1 rfl) ?_
              refine va_iast hx hb hK hP hD hS 1 0 rfl rfl (i := v_9) hsn dX5_stop_68 (fun H locs hP hD hS => ?_)
              have hP : va_P (dC, dI) vwCl [(m0, .inr (6, [.int 0, .int ms, .int mi, .int v_9, .int ma, .int mf, .int mk, .int mp, .ref m1, .ref m2, .ref m3, .ref m4, .ref m5, .ref m6, .ref m7, .ref m8, .ref m9, .ref m10, .ref m11, .ref m12, .ref m13, .ref m14, .ref m15, .ref m16, .ref m17, .ref m18, .ref m19])), (m8, .inl (km8, 21, .inl (upd mkd v_9.toNatClampNeg kn))), (m9, .inl (km9, 21, .inl mof)), (m10, .inl (km10, 21, .inl mcd))] H := hP
              have hD : va_D A [(m0, .inr (6, [.int 0, .int ms, .int mi, .int v_9, .int ma, .int mf, .int mk, .int mp, .ref m1, .ref m2, .ref m3, .ref m4, .ref m5, .ref m6, .ref m7, .ref m8, .ref m9, .ref m10, .ref m11, .ref m12, .ref m13, .ref m14, .ref m15, .ref m16, .ref m17, .ref m18, .ref m19])), (m8, .inl (km8, 21, .inl (upd mkd v_9.toNatClampNeg kn))), (m9, .inl (km9, 21, .inl mof)), (m10, .inl (km10, 21, .inl mcd))] := hD
              obtain ⟨g_10, e_g_10⟩ : ∃ y, y = upd mkd v_9.toNatClampNeg kn := ⟨_, rfl⟩
              rw [← e_g_10] at hP hD
              refine lv_aload_n hx hb dX5_stop_69 rfl (lv_at hl 0 rfl) ?_
              refine va_get (D := (dC, dI)) (ci := 6) (v := .ref m9) (C := RX5) (T := TX5) (N := 27) hx hb hts (by decide +kernel) hown hK hP 0 rfl rfl 16 (by decide) (hts (.fieldLink RX5 36 "CobolDebuggerModel" "ofs" "[I") (by decide +kernel)) (fun _ h9 => h9) rfl dX5_stop_70 ?_
              refine lv_aload_n hx hb dX5_stop_73 rfl (lv_at hl 0 rfl) ?_
              refine va_get (D := (dC, dI)) (ci := 6) (v := .int v_9) (C := RX5) (T := TX5) (N := 27) hx hb hts (by decide +kernel) hown hK hP 0 rfl rfl 3 (by decide) (hts (.fieldLink RX5 89 "CobolDebuggerModel" "stops" "I") (by decide +kernel)) (fun _ h9 => h9) rfl dX5_stop_74 ?_
              refine lv_iload_n hx hb dX5_stop_77 rfl (lv_at hl 2 rfl) ?_
              refine va_iast hx hb hK hP hD hS 2 1 rfl rfl (i := v_9) hsn dX5_stop_78 (fun H locs hP hD hS => ?_)
              have hP : va_P (dC, dI) vwCl [(m0, .inr (6, [.int 0, .int ms, .int mi, .int v_9, .int ma, .int mf, .int mk, .int mp, .ref m1, .ref m2, .ref m3, .ref m4, .ref m5, .ref m6, .ref m7, .ref m8, .ref m9, .ref m10, .ref m11, .ref m12, .ref m13, .ref m14, .ref m15, .ref m16, .ref m17, .ref m18, .ref m19])), (m8, .inl (km8, 21, .inl g_10)), (m9, .inl (km9, 21, .inl (upd mof v_9.toNatClampNeg oo))), (m10, .inl (km10, 21, .inl mcd))] H := hP
              have hD : va_D A [(m0, .inr (6, [.int 0, .int ms, .int mi, .int v_9, .int ma, .int mf, .int mk, .int mp, .ref m1, .ref m2, .ref m3, .ref m4, .ref m5, .ref m6, .ref m7, .ref m8, .ref m9, .ref m10, .ref m11, .ref m12, .ref m13, .ref m14, .ref m15, .ref m16, .ref m17, .ref m18, .ref m19])), (m8, .inl (km8, 21, .inl g_10)), (m9, .inl (km9, 21, .inl (upd mof v_9.toNatClampNeg oo))), (m10, .inl (km10, 21, .inl mcd))] := hD
              obtain ⟨g_11, e_g_11⟩ : ∃ y, y = upd mof v_9.toNatClampNeg oo := ⟨_, rfl⟩
              rw [← e_g_11] at hP hD
              refine lv_aload_n hx hb dX5_stop_79 rfl (lv_at hl 0 rfl) ?_
              refine va_get (D := (dC, dI)) (ci := 6) (v := .ref m10) (C := RX5) (T := TX5) (N := 27) hx hb hts (by decide +kernel) hown hK hP 0 rfl rfl 17 (by decide) (hts (.fieldLink RX5 39 "CobolDebuggerModel" "conditions" "[I") (by decide +kernel)) (fun _ h9 => h9) rfl dX5_stop_80 ?_
              refine lv_aload_n hx hb dX5_stop_83 rfl (lv_at hl 0 rfl) ?_
              refine va_get (D := (dC, dI)) (ci := 6) (v := .int v_9) (C := RX5) (T := TX5) (N := 27) hx hb hts (by decide +kernel) hown hK hP 0 rfl rfl 3 (by decide) (hts (.fieldLink RX5 89 "CobolDebuggerModel" "stops" "I") (by decide +kernel)) (fun _ h9 => h9) rfl dX5_stop_84 ?_
              refine lv_iload_n hx hb dX5_stop_87 rfl (lv_at hl 3 rfl) ?_
              refine va_iast hx hb hK hP hD hS 3 2 rfl rfl (i := v_9) hsn dX5_stop_88 (fun H locs hP hD hS => ?_)
              have hP : va_P (dC, dI) vwCl [(m0, .inr (6, [.int 0, .int ms, .int mi, .int v_9, .int ma, .int mf, .int mk, .int mp, .ref m1, .ref m2, .ref m3, .ref m4, .ref m5, .ref m6, .ref m7, .ref m8, .ref m9, .ref m10, .ref m11, .ref m12, .ref m13, .ref m14, .ref m15, .ref m16, .ref m17, .ref m18, .ref m19])), (m8, .inl (km8, 21, .inl g_10)), (m9, .inl (km9, 21, .inl g_11)), (m10, .inl (km10, 21, .inl (upd mcd v_9.toNatClampNeg co)))] H := hP
              have hD : va_D A [(m0, .inr (6, [.int 0, .int ms, .int mi, .int v_9, .int ma, .int mf, .int mk, .int mp, .ref m1, .ref m2, .ref m3, .ref m4, .ref m5, .ref m6, .ref m7, .ref m8, .ref m9, .ref m10, .ref m11, .ref m12, .ref m13, .ref m14, .ref m15, .ref m16, .ref m17, .ref m18, .ref m19])), (m8, .inl (km8, 21, .inl g_10)), (m9, .inl (km9, 21, .inl g_11)), (m10, .inl (km10, 21, .inl (upd mcd v_9.toNatClampNeg co)))] := hD
              obtain ⟨g_12, e_g_12⟩ : ∃ y, y = upd mcd v_9.toNatClampNeg co := ⟨_, rfl⟩
              rw [← e_g_12] at hP hD
              refine lv_aload_n hx hb dX5_stop_89 rfl (lv_at hl 0 rfl) ?_
              refine va_get (D := (dC, dI)) (ci := 6) (v := .int v_9) (C := RX5) (T := TX5) (N := 27) hx hb hts (by decide +kernel) hown hK hP 0 rfl rfl 3 (by decide) (hts (.fieldLink RX5 89 "CobolDebuggerModel" "stops" "I") (by decide +kernel)) (fun _ h9 => h9) rfl dX5_stop_90 ?_
              exact W.iret (v := v_9) hx hb hr (fun t ht hW => ⟨⟨v_9, (0, v_9, g_10, g_11, g_12), rfl, ⟨by unfold stopA; rw [if_neg (fun h => h.elim c_6 (fun h => (Int32.not_lt.mpr c_11) h)), if_neg (fun h => c_32 (w_29.mpr h.2)), if_pos hlt]; exact e_v_9, fun _ => ⟨e_v_9, e_g_10, e_g_11, e_g_12⟩, fun h => absurd ⟨(fun h => h.elim c_6 (fun h => (Int32.not_lt.mpr c_11) h)), (fun h => c_32 (w_29.mpr h.2)), hlt⟩ h, fun _ _ _ h => mc_stop h hlt (fun _ => ⟨i_n0 (fun h => c_32 (w_29.mpr (Or.inl h))), n_lt (fun h => c_32 (w_29.mpr (Or.inr h)))⟩) e_v_9 e_g_10 e_g_11⟩, by rw [ht]; exact hP, hD⟩, hS.F ht⟩) hS.2.2 dX5_stop_93
            · refine lv_iconst (v := (-1)) hx hb dX5_stop_47 (by decide) ?_
              exact W.iret (v := (-1)) hx hb hr (fun t ht hW => ⟨⟨(-1), (0, mt, mkd, mof, mcd), rfl, ⟨by unfold stopA; rw [if_neg (fun h => h.elim c_6 (fun h => (Int32.not_lt.mpr c_11) h)), if_neg (fun h => c_32 (w_29.mpr h.2)), if_neg (by rw [c_44]; decide)], fun h => absurd h.2.2 (by rw [c_44]; decide), fun _ => ⟨rfl, rfl, rfl, rfl⟩, fun _ _ _ h => h⟩, by rw [ht]; exact hP, hD⟩, hS.F ht⟩) hS.2.2 dX5_stop_48
          · refine lv_bipush (v := (-2)) hx hb dX5_stop_35 (by decide) ?_
            exact W.iret (v := (-2)) hx hb hr (fun t ht hW => ⟨⟨(-2), (0, mt, mkd, mof, mcd), rfl, ⟨by unfold stopA; rw [if_neg (fun h => h.elim c_6 (fun h => (Int32.not_lt.mpr c_11) h)), if_pos ⟨(Or.inr c_24), w_29.mp c_32⟩], fun h => absurd ⟨(Or.inr c_24), w_29.mp c_32⟩ h.2.1, fun _ => ⟨rfl, rfl, rfl, rfl⟩, fun _ _ _ h => h⟩, by rw [ht]; exact hP, hD⟩, hS.F ht⟩) hS.2.2 dX5_stop_37
    · refine lv_bipush (v := (-4)) hx hb dX5_stop_14 (by decide) ?_
      exact W.iret (v := (-4)) hx hb hr (fun t ht hW => ⟨⟨(-4), (0, mt, mkd, mof, mcd), rfl, ⟨by unfold stopA; rw [if_pos (Or.inr (Int32.not_le.mp c_11))], fun h => absurd (Or.inr (Int32.not_le.mp c_11)) h.1, fun _ => ⟨rfl, rfl, rfl, rfl⟩, fun _ _ _ h => h⟩, by rw [ht]; exact hP, hD⟩, hS.F ht⟩) hS.2.2 dX5_stop_16
