set_option maxHeartbeats 4000000 in
set_option maxRecDepth 100000 in
theorem c_X5_octetOf (l : Launch) (dC : Nat → ClassId) (dI : Nat → Nat → Nat) (m0 m1 m2 m3 m4 m5 m6 m7 m8 m9 m10 m11 m12 m13 m14 m15 m16 m17 m18 m19 : Nat) (km7 : ClassId) (mbs : Nat → Int32) (ce ms mi mt ma mf mk mp : Int32) (im : Int32) (k : Int32) (hix : vp_in (9 * im + k) 270) : Met l yX5_octetOf wsX5_octetOf ({ frames := 0, cells := 0, slots := 0, locals := 0 }) (va_Pc [.ref m0, .int im, .int k] (fun U => va_P (dC, dI) vwCl [(m0, .inr (6, [.int ce, .int ms, .int mi, .int mt, .int ma, .int mf, .int mk, .int mp, .ref m1, .ref m2, .ref m3, .ref m4, .ref m5, .ref m6, .ref m7, .ref m8, .ref m9, .ref m10, .ref m11, .ref m12, .ref m13, .ref m14, .ref m15, .ref m16, .ref m17, .ref m18, .ref m19])), (m7, .inl (km7, 270, .inl mbs))] U.heap ∧ va_K (dC, dI) vwCl [(km7, .byte)] U)) (va_Qi (fun (r : Int32) (_ : Unit) => True) (fun _ _ => True) (fun _ => False)) 0 0 (fun _ => False) := by
  refine Met.ofW (cc := cX5_octetOf) (maxL := 3) (ret := (some .int)) (by decide) rfl ?_
  intro p e s m args below meth c s₁ B hml hv
  obtain ⟨rfl, hP, hK⟩ := hv
  have hx := B.exec
  have hb := B.bytes
  have hr := B.returns
  have hts := atoms_spec (ws := wsX5_octetOf) B.pre
  have hown : s.vm.findClass RX5 = some m.cls := findClass_of_methodNamed B.named
  have hlocks := B.notSynchronized
  have hS : va_S (fun _ => False) s.heap s.heap [] := va_S.rf
  have hl := lv_entry ([.ref m0, .int im, .int k]) (n := 3) (Nat.le_of_ble_eq_true rfl)
  rw [lg_entry_eq]
  generalize (lg_sl ([.ref m0, .int im, .int k]) ++ List.replicate (3 - (lg_sl ([.ref m0, .int im, .int k])).length) Slot.unset).toArray = ls at hl ⊢
  have hl : lv_has ls 3 [(0, .ref m0), (1, .int im), (2, .int k)] := hl
  refine lv_aload_n hx hb dX5_octetOf_0 rfl (lv_at hl 0 rfl) ?_
  refine va_get (D := (dC, dI)) (ci := 6) (v := .ref m7) (C := RX5) (T := TX5) (N := 27) hx hb hts (by decide +kernel) hown hK hP 0 rfl rfl 14 (by decide) (hts (.fieldLink RX5 29 "CobolDebuggerModel" "bytes" "[B") (by decide +kernel)) (fun _ h9 => h9) rfl dX5_octetOf_1 ?_
  refine lv_bipush (v := 9) hx hb dX5_octetOf_4 (by decide) ?_
  refine lv_iload_n hx hb dX5_octetOf_6 rfl (lv_at hl 1 rfl) ?_
  refine lv_imul hx hb dX5_octetOf_7 ?_
  refine lv_iload_n hx hb dX5_octetOf_8 rfl (lv_at hl 2 rfl) ?_
  refine lv_iadd hx hb dX5_octetOf_9 ?_
  refine va_bald hx hb hK hP 1 0 rfl rfl (i := (9 * im) + k) hix dX5_octetOf_10 ?_
  refine lv_sipush (v := 255) hx hb dX5_octetOf_11 (by decide) ?_
  refine lv_iand hx hb dX5_octetOf_14 ?_
  exact W.iret (v := (mbs ((9 * im) + k).toNatClampNeg) &&& 255) hx hb hr (fun t ht hW => ⟨⟨((mbs ((9 * im) + k).toNatClampNeg) &&& 255), (), rfl, trivial, trivial⟩, hS.F ht⟩) hS.2.2 dX5_octetOf_15

set_option maxHeartbeats 4000000 in
set_option maxRecDepth 100000 in
theorem c_X5_digitOf (l : Launch) (dC : Nat → ClassId) (dI : Nat → Nat → Nat) (m0 m1 m2 m3 m4 m5 m6 m7 m8 m9 m10 m11 m12 m13 m14 m15 m16 m17 m18 m19 : Nat) (km6 km7 : ClassId) (mss mbs : Nat → Int32) (ce ms mi mt ma mf mk mp : Int32) (im : Int32) (k : Int32) (him : vp_in im 30) (hix : vp_in (9 * im + k) 270) : Met l yX5_digitOf wsX5_digitOf ({ frames := 1, cells := 0, slots := 0, locals := 22 }) (va_Pc [.ref m0, .int im, .int k] (fun U => va_P (dC, dI) vwCl [(m0, .inr (6, [.int ce, .int ms, .int mi, .int mt, .int ma, .int mf, .int mk, .int mp, .ref m1, .ref m2, .ref m3, .ref m4, .ref m5, .ref m6, .ref m7, .ref m8, .ref m9, .ref m10, .ref m11, .ref m12, .ref m13, .ref m14, .ref m15, .ref m16, .ref m17, .ref m18, .ref m19])), (m6, .inl (km6, 30, .inl mss)), (m7, .inl (km7, 270, .inl mbs))] U.heap ∧ va_K (dC, dI) vwCl [(km6, .int), (km7, .byte)] U)) (va_Qi (fun (r : Int32) (_ : Unit) => True) (fun _ _ => True) (fun _ => False)) 0 0 (fun _ => False) := by
  refine Met.ofW (cc := cX5_digitOf) (maxL := 4) (ret := (some .int)) (by decide) rfl ?_
  intro p e s m args below meth c s₁ B hml hv
  obtain ⟨rfl, hP, hK⟩ := hv
  have hx := B.exec
  have hb := B.bytes
  have hr := B.returns
  have hts := atoms_spec (ws := wsX5_digitOf) B.pre
  have hown : s.vm.findClass RX5 = some m.cls := findClass_of_methodNamed B.named
  have hlocks := B.notSynchronized
  have hS : va_S (fun _ => False) s.heap s.heap [] := va_S.rf
  have hl := lv_entry ([.ref m0, .int im, .int k]) (n := 4) (Nat.le_of_ble_eq_true rfl)
  rw [lg_entry_eq]
  generalize (lg_sl ([.ref m0, .int im, .int k]) ++ List.replicate (4 - (lg_sl ([.ref m0, .int im, .int k])).length) Slot.unset).toArray = ls at hl ⊢
  have hl : lv_has ls 4 [(0, .ref m0), (1, .int im), (2, .int k)] := hl
  refine lv_aload_n hx hb dX5_digitOf_0 rfl (lv_at hl 0 rfl) ?_
  refine lv_iload_n hx hb dX5_digitOf_1 rfl (lv_at hl 1 rfl) ?_
  refine lv_iload_n hx hb dX5_digitOf_2 rfl (lv_at hl 2 rfl) ?_
  have hPc := hP.sub (ws' := [(m0, .inr (6, [.int ce, .int ms, .int mi, .int mt, .int ma, .int mf, .int mk, .int mp, .ref m1, .ref m2, .ref m3, .ref m4, .ref m5, .ref m6, .ref m7, .ref m8, .ref m9, .ref m10, .ref m11, .ref m12, .ref m13, .ref m14, .ref m15, .ref m16, .ref m17, .ref m18, .ref m19])), (m7, .inl (km7, 270, .inl mbs))]) [0, 2] rfl
  have hKc := hK.sub (tys' := [(km7, .byte)]) [1] rfl
  refine va_calli (va_runV (As := [.int im, .int k]) (rest := []) ⟨hx, hb, hml, hown, hts⟩ (c_X5_octetOf l dC dI m0 m1 m2 m3 m4 m5 m6 m7 m8 m9 m10 m11 m12 m13 m14 m15 m16 m17 m18 m19 km7 mbs ce ms mi mt ma mf mk mp im k (hix)) (cwV 2 hts gX5_digitOf_X5_octetOf rfl rfl rfl (by decide +kernel) ⟨Nat.le_of_ble_eq_true rfl, Nat.le_of_ble_eq_true rfl⟩) ⟨fun a U g mk q => by obtain ⟨q0, qP, qK⟩ := q; exact ⟨q0, qP, va_K.moved (u := U) (U := U.calling g mk a) (Vm.Alike.refl U.vm) qK⟩, va_recv hKc hPc (ci := 6) (q0 := 0) rfl rfl, fun U hU hW => ⟨rfl, by rw [hU]; exact hPc, va_K.moved hW.alike hKc⟩⟩ rfl rfl hl.1 rfl (lv_room (Nat.le_of_ble_eq_true rfl)) dX5_digitOf_3 ⟨Nat.zero_le _, Nat.zero_le _⟩) hS (fun q _ h => h.elim) (fun q h => h.elim) (fun r_3 u t H1 locs ht hvm w_3 hB hz1 hk1 hS => ?_)
  try dsimp only at w_3
  have hP := rd_keep hP hk1
  clear hB hk1 hz1 ht hvm u t
  generalize H1 = H at hP hS ⊢
  refine lv_bipush (v := 48) hx hb dX5_digitOf_6 (by decide) ?_
  refine lv_isub hx hb dX5_digitOf_8 ?_
  refine lv_istore_n (lv' := [(3, .int (r_3 - 48)), (0, .ref m0), (1, .int im), (2, .int k)]) hx hb dX5_digitOf_9 rfl hl (by decide) rfl (fun ls hl => ?_)
  refine lv_iload_n hx hb dX5_digitOf_10 rfl (lv_at hl 3 rfl) ?_
  refine lv_aload_n hx hb dX5_digitOf_11 rfl (lv_at hl 1 rfl) ?_
  refine va_get (D := (dC, dI)) (ci := 6) (v := .ref m6) (C := RX5) (T := TX5) (N := 27) hx hb hts (by decide +kernel) hown hK hP 0 rfl rfl 13 (by decide) (hts (.fieldLink RX5 26 "CobolDebuggerModel" "sizes" "[I") (by decide +kernel)) (fun _ h9 => h9) rfl dX5_digitOf_12 ?_
  refine lv_iload_n hx hb dX5_digitOf_15 rfl (lv_at hl 2 rfl) ?_
  refine va_iald hx hb hK hP 1 0 rfl rfl (i := im) him dX5_digitOf_16 ?_
  refine lv_iconst (v := 1) hx hb dX5_digitOf_17 (by decide) ?_
  refine lv_isub hx hb dX5_digitOf_18 ?_
  refine lv_icmp_ne (tgt := 31) hx hb dX5_digitOf_19 (by decide) (fun c_19 => ?_) (fun c_19 => ?_)
  · refine lv_iload_n hx hb dX5_digitOf_31 rfl (lv_at hl 0 rfl) ?_
    refine lv_if_lt (tgt := 45) hx hb dX5_digitOf_32 (by decide) (fun c_32 => ?_) (fun c_32 => ?_)
    · refine lv_iconst (v := (-1)) hx hb dX5_digitOf_45 (by decide) ?_
      exact W.iret (v := (-1)) hx hb hr (fun t ht hW => ⟨⟨(-1), (), rfl, trivial, trivial⟩, hS.F ht⟩) hS.2.2 dX5_digitOf_46
    · refine lv_iload_n hx hb dX5_digitOf_35 rfl (lv_at hl 0 rfl) ?_
      refine lv_bipush (v := 10) hx hb dX5_digitOf_36 (by decide) ?_
      refine lv_icmp_ge (tgt := 45) hx hb dX5_digitOf_38 (by decide) (fun c_38 => ?_) (fun c_38 => ?_)
      · refine lv_iconst (v := (-1)) hx hb dX5_digitOf_45 (by decide) ?_
        exact W.iret (v := (-1)) hx hb hr (fun t ht hW => ⟨⟨(-1), (), rfl, trivial, trivial⟩, hS.F ht⟩) hS.2.2 dX5_digitOf_46
      · refine lv_iload_n hx hb dX5_digitOf_41 rfl (lv_at hl 0 rfl) ?_
        refine lv_goto (tgt := 46) hx hb dX5_digitOf_42 (by decide) ?_
        exact W.iret (v := r_3 - 48) hx hb hr (fun t ht hW => ⟨⟨(r_3 - 48), (), rfl, trivial, trivial⟩, hS.F ht⟩) hS.2.2 dX5_digitOf_46
  · refine lv_iload_n hx hb dX5_digitOf_22 rfl (lv_at hl 0 rfl) ?_
    refine lv_bipush (v := 64) hx hb dX5_digitOf_23 (by decide) ?_
    refine lv_icmp_lt (tgt := 31) hx hb dX5_digitOf_25 (by decide) (fun c_25 => ?_) (fun c_25 => ?_)
    · refine lv_iload_n hx hb dX5_digitOf_31 rfl (lv_at hl 0 rfl) ?_
      refine lv_if_lt (tgt := 45) hx hb dX5_digitOf_32 (by decide) (fun c_32 => ?_) (fun c_32 => ?_)
      · refine lv_iconst (v := (-1)) hx hb dX5_digitOf_45 (by decide) ?_
        exact W.iret (v := (-1)) hx hb hr (fun t ht hW => ⟨⟨(-1), (), rfl, trivial, trivial⟩, hS.F ht⟩) hS.2.2 dX5_digitOf_46
      · refine lv_iload_n hx hb dX5_digitOf_35 rfl (lv_at hl 0 rfl) ?_
        refine lv_bipush (v := 10) hx hb dX5_digitOf_36 (by decide) ?_
        refine lv_icmp_ge (tgt := 45) hx hb dX5_digitOf_38 (by decide) (fun c_38 => ?_) (fun c_38 => ?_)
        · refine lv_iconst (v := (-1)) hx hb dX5_digitOf_45 (by decide) ?_
          exact W.iret (v := (-1)) hx hb hr (fun t ht hW => ⟨⟨(-1), (), rfl, trivial, trivial⟩, hS.F ht⟩) hS.2.2 dX5_digitOf_46
        · refine lv_iload_n hx hb dX5_digitOf_41 rfl (lv_at hl 0 rfl) ?_
          refine lv_goto (tgt := 46) hx hb dX5_digitOf_42 (by decide) ?_
          exact W.iret (v := r_3 - 48) hx hb hr (fun t ht hW => ⟨⟨(r_3 - 48), (), rfl, trivial, trivial⟩, hS.F ht⟩) hS.2.2 dX5_digitOf_46
    · obtain ⟨i_1, e_i_1⟩ : ∃ y : Int32, y = r_3 - 48 + (-64) := ⟨_, rfl⟩
      refine lv_iinc (v := i_1) (lv' := [(3, .int i_1), (0, .ref m0), (1, .int im), (2, .int k)]) hx hb dX5_digitOf_28 hl (k := 0) rfl (by rw [e_i_1]; rfl) (by decide) rfl (fun ls hl => ?_)
      refine lv_iload_n hx hb dX5_digitOf_31 rfl (lv_at hl 0 rfl) ?_
      refine lv_if_lt (tgt := 45) hx hb dX5_digitOf_32 (by decide) (fun c_32 => ?_) (fun c_32 => ?_)
      · refine lv_iconst (v := (-1)) hx hb dX5_digitOf_45 (by decide) ?_
        exact W.iret (v := (-1)) hx hb hr (fun t ht hW => ⟨⟨(-1), (), rfl, trivial, trivial⟩, hS.F ht⟩) hS.2.2 dX5_digitOf_46
      · refine lv_iload_n hx hb dX5_digitOf_35 rfl (lv_at hl 0 rfl) ?_
        refine lv_bipush (v := 10) hx hb dX5_digitOf_36 (by decide) ?_
        refine lv_icmp_ge (tgt := 45) hx hb dX5_digitOf_38 (by decide) (fun c_38 => ?_) (fun c_38 => ?_)
        · refine lv_iconst (v := (-1)) hx hb dX5_digitOf_45 (by decide) ?_
          exact W.iret (v := (-1)) hx hb hr (fun t ht hW => ⟨⟨(-1), (), rfl, trivial, trivial⟩, hS.F ht⟩) hS.2.2 dX5_digitOf_46
        · refine lv_iload_n hx hb dX5_digitOf_41 rfl (lv_at hl 0 rfl) ?_
          refine lv_goto (tgt := 46) hx hb dX5_digitOf_42 (by decide) ?_
          exact W.iret (v := i_1) hx hb hr (fun t ht hW => ⟨⟨i_1, (), rfl, trivial, trivial⟩, hS.F ht⟩) hS.2.2 dX5_digitOf_46

set_option maxHeartbeats 4000000 in
set_option maxRecDepth 100000 in
theorem c_X5_isBad (l : Launch) (dC : Nat → ClassId) (dI : Nat → Nat → Nat) (m0 m1 m2 m3 m4 m5 m6 m7 m8 m9 m10 m11 m12 m13 m14 m15 m16 m17 m18 m19 : Nat) (km5 km6 km7 : ClassId) (mus mss mbs : Nat → Int32) (ce ms mi mt ma mf mk mp : Int32) (im : Int32) (him : vp_in im 30) (hs1 : 1 ≤ (mss im.toNatClampNeg).toInt) (hs9 : (mss im.toNatClampNeg).toInt ≤ 9) : Met l yX5_isBad wsX5_isBad ({ frames := 2, cells := 0, slots := 0, locals := 45 }) (va_Pc [.ref m0, .int im] (fun U => va_P (dC, dI) vwCl [(m0, .inr (6, [.int ce, .int ms, .int mi, .int mt, .int ma, .int mf, .int mk, .int mp, .ref m1, .ref m2, .ref m3, .ref m4, .ref m5, .ref m6, .ref m7, .ref m8, .ref m9, .ref m10, .ref m11, .ref m12, .ref m13, .ref m14, .ref m15, .ref m16, .ref m17, .ref m18, .ref m19])), (m5, .inl (km5, 30, .inl mus)), (m6, .inl (km6, 30, .inl mss)), (m7, .inl (km7, 270, .inl mbs))] U.heap ∧ va_K (dC, dI) vwCl [(km5, .int), (km6, .int), (km7, .byte)] U)) (va_Qi (fun (r : Int32) (_ : Unit) => True) (fun _ _ => True) (fun _ => False)) 0 0 (fun _ => False) := by
  refine Met.ofW (cc := cX5_isBad) (maxL := 4) (ret := (some .boolean)) (by decide) rfl ?_
  intro p e s m args below meth c s₁ B hml hv
  obtain ⟨rfl, hP, hK⟩ := hv
  have hx := B.exec
  have hb := B.bytes
  have hr := B.returns
  have hts := atoms_spec (ws := wsX5_isBad) B.pre
  have hown : s.vm.findClass RX5 = some m.cls := findClass_of_methodNamed B.named
  have hlocks := B.notSynchronized
  have hS : va_S (fun _ => False) s.heap s.heap [] := va_S.rf
  have hl := lv_entry ([.ref m0, .int im]) (n := 4) (Nat.le_of_ble_eq_true rfl)
  rw [lg_entry_eq]
  generalize (lg_sl ([.ref m0, .int im]) ++ List.replicate (4 - (lg_sl ([.ref m0, .int im])).length) Slot.unset).toArray = ls at hl ⊢
  have hl : lv_has ls 4 [(0, .ref m0), (1, .int im)] := hl
  refine lv_iconst (v := 0) hx hb dX5_isBad_0 (by decide) ?_
  refine lv_istore_n (lv' := [(2, .int 0), (0, .ref m0), (1, .int im)]) hx hb dX5_isBad_1 rfl hl (by decide) rfl (fun ls hl => ?_)
  refine lv_iconst (v := 0) hx hb dX5_isBad_2 (by decide) ?_
  refine lv_istore_n (lv' := [(3, .int 0), (2, .int 0), (0, .ref m0), (1, .int im)]) hx hb dX5_isBad_3 rfl hl (by decide) rfl (fun ls hl => ?_)
  refine wl2 (μ := fun (bd : Int32) (k : Int32) => ((mss im.toNatClampNeg).toInt - k.toInt).toNat) (I := fun (bd : Int32) (k : Int32) (ls : Array Slot) (H : Heap) (locs : List Loc) => lv_has ls 4 [(0, .ref m0), (1, .int im), (2, .int bd), (3, .int k)] ∧ va_P (dC, dI) vwCl [(m0, .inr (6, [.int ce, .int ms, .int mi, .int mt, .int ma, .int mf, .int mk, .int mp, .ref m1, .ref m2, .ref m3, .ref m4, .ref m5, .ref m6, .ref m7, .ref m8, .ref m9, .ref m10, .ref m11, .ref m12, .ref m13, .ref m14, .ref m15, .ref m16, .ref m17, .ref m18, .ref m19])), (m5, .inl (km5, 30, .inl mus)), (m6, .inl (km6, 30, .inl mss)), (m7, .inl (km7, 270, .inl mbs))] H ∧ va_S (fun _ => False) s.heap H locs ∧ (bd = 0 ∨ bd = 1) ∧ (0 ≤ k.toInt)) (fun bd k ls H locs hI ih => ?_) 0 0 ls _ _ ⟨lv_sub hl [2, 3, 1, 0] rfl, hP, hS, Or.inl rfl, by decide⟩
  obtain ⟨hl, hP, hS, hch, hk0⟩ := hI
  refine lv_iload_n hx hb dX5_isBad_4 rfl (lv_at hl 3 rfl) ?_
  refine lv_aload_n hx hb dX5_isBad_5 rfl (lv_at hl 0 rfl) ?_
  refine va_get (D := (dC, dI)) (ci := 6) (v := .ref m6) (C := RX5) (T := TX5) (N := 27) hx hb hts (by decide +kernel) hown hK hP 0 rfl rfl 13 (by decide) (hts (.fieldLink RX5 26 "CobolDebuggerModel" "sizes" "[I") (by decide +kernel)) (fun _ h9 => h9) rfl dX5_isBad_6 ?_
  refine lv_iload_n hx hb dX5_isBad_9 rfl (lv_at hl 1 rfl) ?_
  refine va_iald hx hb hK hP 2 1 rfl rfl (i := im) him dX5_isBad_10 ?_
  refine lv_icmp_ge (tgt := 49) hx hb dX5_isBad_11 (by decide) (fun c_11 => ?_) (fun c_11 => ?_)
  · refine lv_iload_n hx hb dX5_isBad_49 rfl (lv_at hl 2 rfl) ?_
    exact W.zret (v := bd) hx hb hr (ch_nar hch) (fun t ht hW => ⟨⟨bd, (), rfl, trivial, trivial⟩, hS.F ht⟩) hS.2.2 dX5_isBad_50
  · have hk9 := n_lt c_11
    refine lv_aload_n hx hb dX5_isBad_14 rfl (lv_at hl 0 rfl) ?_
    refine va_get (D := (dC, dI)) (ci := 6) (v := .ref m5) (C := RX5) (T := TX5) (N := 27) hx hb hts (by decide +kernel) hown hK hP 0 rfl rfl 12 (by decide) (hts (.fieldLink RX5 23 "CobolDebuggerModel" "usages" "[I") (by decide +kernel)) (fun _ h9 => h9) rfl dX5_isBad_15 ?_
    refine lv_iload_n hx hb dX5_isBad_18 rfl (lv_at hl 1 rfl) ?_
    refine va_iald hx hb hK hP 1 0 rfl rfl (i := im) him dX5_isBad_19 ?_
    refine lv_if_ne (tgt := 49) hx hb dX5_isBad_20 (by decide) (fun c_20 => ?_) (fun c_20 => ?_)
    · refine lv_iload_n hx hb dX5_isBad_49 rfl (lv_at hl 2 rfl) ?_
      exact W.zret (v := bd) hx hb hr (ch_nar hch) (fun t ht hW => ⟨⟨bd, (), rfl, trivial, trivial⟩, hS.F ht⟩) hS.2.2 dX5_isBad_50
    · refine lv_iload_n hx hb dX5_isBad_23 rfl (lv_at hl 2 rfl) ?_
      refine lv_if_ne (tgt := 37) hx hb dX5_isBad_24 (by decide) (fun c_24 => ?_) (fun c_24 => ?_)
      · refine lv_iconst (v := 1) hx hb dX5_isBad_37 (by decide) ?_
        refine lv_goto (tgt := 42) hx hb dX5_isBad_38 (by decide) ?_
        refine lv_istore_n (lv' := [(2, .int 1), (0, .ref m0), (1, .int im), (3, .int k)]) hx hb dX5_isBad_42 rfl hl (by decide) rfl (fun ls hl => ?_)
        obtain ⟨i_1, e_i_1⟩ : ∃ y : Int32, y = k + 1 := ⟨_, rfl⟩
        refine lv_iinc (v := i_1) (lv' := [(3, .int i_1), (2, .int 1), (0, .ref m0), (1, .int im)]) hx hb dX5_isBad_43 hl (k := 3) rfl (by rw [e_i_1]; rfl) (by decide) rfl (fun ls hl => ?_)
        refine lv_goto (tgt := 4) hx hb dX5_isBad_46 (by decide) ?_
        exact ih 1 i_1 _ _ _ ⟨lv_sub hl [2, 3, 1, 0] rfl, hP, hS, Or.inr rfl, by rw [e_i_1, i_p1 (by omega) (by omega)]; omega⟩ (by rw [e_i_1, i_p1 (by omega) (by omega)]; omega)
      · refine lv_aload_n hx hb dX5_isBad_27 rfl (lv_at hl 0 rfl) ?_
        refine lv_iload_n hx hb dX5_isBad_28 rfl (lv_at hl 1 rfl) ?_
        refine lv_iload_n hx hb dX5_isBad_29 rfl (lv_at hl 3 rfl) ?_
        have hPc := hP.sub (ws' := [(m0, .inr (6, [.int ce, .int ms, .int mi, .int mt, .int ma, .int mf, .int mk, .int mp, .ref m1, .ref m2, .ref m3, .ref m4, .ref m5, .ref m6, .ref m7, .ref m8, .ref m9, .ref m10, .ref m11, .ref m12, .ref m13, .ref m14, .ref m15, .ref m16, .ref m17, .ref m18, .ref m19])), (m6, .inl (km6, 30, .inl mss)), (m7, .inl (km7, 270, .inl mbs))]) [0, 2, 3] rfl
        have hKc := hK.sub (tys' := [(km6, .int), (km7, .byte)]) [1, 2] rfl
        refine va_calli (va_runV (As := [.int im, .int k]) (rest := []) ⟨hx, hb, hml, hown, hts⟩ (c_X5_digitOf l dC dI m0 m1 m2 m3 m4 m5 m6 m7 m8 m9 m10 m11 m12 m13 m14 m15 m16 m17 m18 m19 km6 km7 mss mbs ce ms mi mt ma mf mk mp im k (him) (ix_9m him hk0 (by omega))) (cwV 2 hts gX5_isBad_X5_digitOf rfl rfl rfl (by decide +kernel) ⟨Nat.le_of_ble_eq_true rfl, Nat.le_of_ble_eq_true rfl⟩) ⟨fun a U g mk q => by obtain ⟨q0, qP, qK⟩ := q; exact ⟨q0, qP, va_K.moved (u := U) (U := U.calling g mk a) (Vm.Alike.refl U.vm) qK⟩, va_recv hKc hPc (ci := 6) (q0 := 0) rfl rfl, fun U hU hW => ⟨rfl, by rw [hU]; exact hPc, va_K.moved hW.alike hKc⟩⟩ rfl rfl hl.1 rfl (lv_room (Nat.le_of_ble_eq_true rfl)) dX5_isBad_30 ⟨Nat.zero_le _, Nat.zero_le _⟩) hS (fun q _ h => h.elim) (fun q h => h.elim) (fun r_30 u t H1 locs ht hvm w_30 hB hz1 hk1 hS => ?_)
        try dsimp only at w_30
        have hP := rd_keep hP hk1
        clear hB hk1 hz1 ht hvm u t
        generalize H1 = H at hP hS ⊢
        refine lv_iconst (v := (-1)) hx hb dX5_isBad_33 (by decide) ?_
        refine lv_icmp_ne (tgt := 41) hx hb dX5_isBad_34 (by decide) (fun c_34 => ?_) (fun c_34 => ?_)
        · refine lv_iconst (v := 0) hx hb dX5_isBad_41 (by decide) ?_
          refine lv_istore_n (lv' := [(2, .int 0), (0, .ref m0), (1, .int im), (3, .int k)]) hx hb dX5_isBad_42 rfl hl (by decide) rfl (fun ls hl => ?_)
          obtain ⟨i_2, e_i_2⟩ : ∃ y : Int32, y = k + 1 := ⟨_, rfl⟩
          refine lv_iinc (v := i_2) (lv' := [(3, .int i_2), (2, .int 0), (0, .ref m0), (1, .int im)]) hx hb dX5_isBad_43 hl (k := 3) rfl (by rw [e_i_2]; rfl) (by decide) rfl (fun ls hl => ?_)
          refine lv_goto (tgt := 4) hx hb dX5_isBad_46 (by decide) ?_
          exact ih 0 i_2 _ _ _ ⟨lv_sub hl [2, 3, 1, 0] rfl, hP, hS, Or.inl rfl, by rw [e_i_2, i_p1 (by omega) (by omega)]; omega⟩ (by rw [e_i_2, i_p1 (by omega) (by omega)]; omega)
        · refine lv_iconst (v := 1) hx hb dX5_isBad_37 (by decide) ?_
          refine lv_goto (tgt := 42) hx hb dX5_isBad_38 (by decide) ?_
          refine lv_istore_n (lv' := [(2, .int 1), (0, .ref m0), (1, .int im), (3, .int k)]) hx hb dX5_isBad_42 rfl hl (by decide) rfl (fun ls hl => ?_)
          obtain ⟨i_3, e_i_3⟩ : ∃ y : Int32, y = k + 1 := ⟨_, rfl⟩
          refine lv_iinc (v := i_3) (lv' := [(3, .int i_3), (2, .int 1), (0, .ref m0), (1, .int im)]) hx hb dX5_isBad_43 hl (k := 3) rfl (by rw [e_i_3]; rfl) (by decide) rfl (fun ls hl => ?_)
          refine lv_goto (tgt := 4) hx hb dX5_isBad_46 (by decide) ?_
          exact ih 1 i_3 _ _ _ ⟨lv_sub hl [2, 3, 1, 0] rfl, hP, hS, Or.inr rfl, by rw [e_i_3, i_p1 (by omega) (by omega)]; omega⟩ (by rw [e_i_3, i_p1 (by omega) (by omega)]; omega)

set_option maxHeartbeats 4000000 in
set_option maxRecDepth 100000 in
theorem c_X5_says (l : Launch) (dC : Nat → ClassId) (dI : Nat → Nat → Nat) (m0 m1 m2 m3 m4 m5 m6 m7 m8 m9 m10 m11 m12 m13 m14 m15 m16 m17 m18 m19 : Nat) (km5 km6 km7 : ClassId) (mus mss mbs : Nat → Int32) (ce ms mi mt ma mf mk mp : Int32) (im : Int32) (him : vp_in im 30) (hs1 : 1 ≤ (mss im.toNatClampNeg).toInt) (hs9 : (mss im.toNatClampNeg).toInt ≤ 9) : Met l yX5_says wsX5_says ({ frames := 2, cells := 0, slots := 0, locals := 45 }) (va_Pc [.ref m0, .int im] (fun U => va_P (dC, dI) vwCl [(m0, .inr (6, [.int ce, .int ms, .int mi, .int mt, .int ma, .int mf, .int mk, .int mp, .ref m1, .ref m2, .ref m3, .ref m4, .ref m5, .ref m6, .ref m7, .ref m8, .ref m9, .ref m10, .ref m11, .ref m12, .ref m13, .ref m14, .ref m15, .ref m16, .ref m17, .ref m18, .ref m19])), (m5, .inl (km5, 30, .inl mus)), (m6, .inl (km6, 30, .inl mss)), (m7, .inl (km7, 270, .inl mbs))] U.heap ∧ va_K (dC, dI) vwCl [(km5, .int), (km6, .int), (km7, .byte)] U)) (va_Ql (fun (r : Int64) (_ : Unit) => True) (fun _ _ => True) (fun _ => False)) 0 0 (fun _ => False) := by
  refine Met.ofW (cc := cX5_says) (maxL := 5) (ret := (some .long)) (by decide) rfl ?_
  intro p e s m args below meth c s₁ B hml hv
  obtain ⟨rfl, hP, hK⟩ := hv
  have hx := B.exec
  have hb := B.bytes
  have hr := B.returns
  have hts := atoms_spec (ws := wsX5_says) B.pre
  have hown : s.vm.findClass RX5 = some m.cls := findClass_of_methodNamed B.named
  have hlocks := B.notSynchronized
  have hS : va_S (fun _ => False) s.heap s.heap [] := va_S.rf
  have hl := lv_entry ([.ref m0, .int im]) (n := 5) (Nat.le_of_ble_eq_true rfl)
  rw [lg_entry_eq]
  generalize (lg_sl ([.ref m0, .int im]) ++ List.replicate (5 - (lg_sl ([.ref m0, .int im])).length) Slot.unset).toArray = ls at hl ⊢
  have hl : lv_has ls 5 [(0, .ref m0), (1, .int im)] := hl
  refine lv_lconst (v := 0) hx hb dX5_says_0 (by decide) ?_
  refine lv_lstore_n (lv' := [(2, .long 0), (0, .ref m0), (1, .int im)]) hx hb dX5_says_1 rfl hl (by decide) rfl (fun ls hl => ?_)
  refine lv_aload_n hx hb dX5_says_2 rfl (lv_at hl 1 rfl) ?_
  refine va_get (D := (dC, dI)) (ci := 6) (v := .ref m5) (C := RX5) (T := TX5) (N := 27) hx hb hts (by decide +kernel) hown hK hP 0 rfl rfl 12 (by decide) (hts (.fieldLink RX5 23 "CobolDebuggerModel" "usages" "[I") (by decide +kernel)) (fun _ h9 => h9) rfl dX5_says_3 ?_
  refine lv_iload_n hx hb dX5_says_6 rfl (lv_at hl 2 rfl) ?_
  refine va_iald hx hb hK hP 1 0 rfl rfl (i := im) him dX5_says_7 ?_
  refine lv_iconst (v := 2) hx hb dX5_says_8 (by decide) ?_
  refine lv_icmp_ne (tgt := 14) hx hb dX5_says_9 (by decide) (fun c_9 => ?_) (fun c_9 => ?_)
  · refine lv_aload_n hx hb dX5_says_14 rfl (lv_at hl 1 rfl) ?_
    refine va_get (D := (dC, dI)) (ci := 6) (v := .ref m5) (C := RX5) (T := TX5) (N := 27) hx hb hts (by decide +kernel) hown hK hP 0 rfl rfl 12 (by decide) (hts (.fieldLink RX5 23 "CobolDebuggerModel" "usages" "[I") (by decide +kernel)) (fun _ h9 => h9) rfl dX5_says_15 ?_
    refine lv_iload_n hx hb dX5_says_18 rfl (lv_at hl 2 rfl) ?_
    refine va_iald hx hb hK hP 1 0 rfl rfl (i := im) him dX5_says_19 ?_
    refine lv_iconst (v := 1) hx hb dX5_says_20 (by decide) ?_
    refine lv_icmp_ne (tgt := 72) hx hb dX5_says_21 (by decide) (fun c_21 => ?_) (fun c_21 => ?_)
    · refine lv_iconst (v := 0) hx hb dX5_says_72 (by decide) ?_
      refine lv_istore (lv' := [(4, .int 0), (2, .long 0), (0, .ref m0), (1, .int im)]) hx hb dX5_says_73 hl (by decide) rfl (fun ls hl => ?_)
      refine wl2 (μ := fun (va : Int64) (k : Int32) => ((mss im.toNatClampNeg).toInt - k.toInt).toNat) (I := fun (va : Int64) (k : Int32) (ls : Array Slot) (H : Heap) (locs : List Loc) => lv_has ls 5 [(0, .ref m0), (1, .int im), (2, .long va), (4, .int k)] ∧ va_P (dC, dI) vwCl [(m0, .inr (6, [.int ce, .int ms, .int mi, .int mt, .int ma, .int mf, .int mk, .int mp, .ref m1, .ref m2, .ref m3, .ref m4, .ref m5, .ref m6, .ref m7, .ref m8, .ref m9, .ref m10, .ref m11, .ref m12, .ref m13, .ref m14, .ref m15, .ref m16, .ref m17, .ref m18, .ref m19])), (m5, .inl (km5, 30, .inl mus)), (m6, .inl (km6, 30, .inl mss)), (m7, .inl (km7, 270, .inl mbs))] H ∧ va_S (fun _ => False) s.heap H locs ∧ (0 ≤ k.toInt)) (fun va k ls H locs hI ih => ?_) 0 0 ls _ _ ⟨lv_sub hl [2, 3, 1, 0] rfl, hP, hS, by decide⟩
      obtain ⟨hl, hP, hS, hk0⟩ := hI
      refine lv_iload hx hb dX5_says_75 (lv_at hl 3 rfl) ?_
      refine lv_aload_n hx hb dX5_says_77 rfl (lv_at hl 0 rfl) ?_
      refine va_get (D := (dC, dI)) (ci := 6) (v := .ref m6) (C := RX5) (T := TX5) (N := 27) hx hb hts (by decide +kernel) hown hK hP 0 rfl rfl 13 (by decide) (hts (.fieldLink RX5 26 "CobolDebuggerModel" "sizes" "[I") (by decide +kernel)) (fun _ h9 => h9) rfl dX5_says_78 ?_
      refine lv_iload_n hx hb dX5_says_81 rfl (lv_at hl 1 rfl) ?_
      refine va_iald hx hb hK hP 2 1 rfl rfl (i := im) him dX5_says_82 ?_
      refine lv_icmp_ge (tgt := 107) hx hb dX5_says_83 (by decide) (fun c_83 => ?_) (fun c_83 => ?_)
      · refine lv_aload_n hx hb dX5_says_107 rfl (lv_at hl 0 rfl) ?_
        refine lv_iload_n hx hb dX5_says_108 rfl (lv_at hl 1 rfl) ?_
        refine lv_aload_n hx hb dX5_says_109 rfl (lv_at hl 0 rfl) ?_
        refine va_get (D := (dC, dI)) (ci := 6) (v := .ref m6) (C := RX5) (T := TX5) (N := 27) hx hb hts (by decide +kernel) hown hK hP 0 rfl rfl 13 (by decide) (hts (.fieldLink RX5 26 "CobolDebuggerModel" "sizes" "[I") (by decide +kernel)) (fun _ h9 => h9) rfl dX5_says_110 ?_
        refine lv_iload_n hx hb dX5_says_113 rfl (lv_at hl 1 rfl) ?_
        refine va_iald hx hb hK hP 2 1 rfl rfl (i := im) him dX5_says_114 ?_
        refine lv_iconst (v := 1) hx hb dX5_says_115 (by decide) ?_
        refine lv_isub hx hb dX5_says_116 ?_
        have hPc := hP.sub (ws' := [(m0, .inr (6, [.int ce, .int ms, .int mi, .int mt, .int ma, .int mf, .int mk, .int mp, .ref m1, .ref m2, .ref m3, .ref m4, .ref m5, .ref m6, .ref m7, .ref m8, .ref m9, .ref m10, .ref m11, .ref m12, .ref m13, .ref m14, .ref m15, .ref m16, .ref m17, .ref m18, .ref m19])), (m7, .inl (km7, 270, .inl mbs))]) [0, 3] rfl
        have hKc := hK.sub (tys' := [(km7, .byte)]) [2] rfl
        refine va_calli (va_runV (As := [.int im, .int ((mss im.toNatClampNeg) - 1)]) (rest := []) ⟨hx, hb, hml, hown, hts⟩ (c_X5_octetOf l dC dI m0 m1 m2 m3 m4 m5 m6 m7 m8 m9 m10 m11 m12 m13 m14 m15 m16 m17 m18 m19 km7 mbs ce ms mi mt ma mf mk mp im ((mss im.toNatClampNeg) - 1) (ix_9m him (by rw [i_s1 (by omega)]; omega) (by rw [i_s1 (by omega)]; omega))) (cwV 2 hts gX5_says_X5_octetOf rfl rfl rfl (by decide +kernel) ⟨Nat.le_of_ble_eq_true rfl, Nat.le_of_ble_eq_true rfl⟩) ⟨fun a U g mk q => by obtain ⟨q0, qP, qK⟩ := q; exact ⟨q0, qP, va_K.moved (u := U) (U := U.calling g mk a) (Vm.Alike.refl U.vm) qK⟩, va_recv hKc hPc (ci := 6) (q0 := 0) rfl rfl, fun U hU hW => ⟨rfl, by rw [hU]; exact hPc, va_K.moved hW.alike hKc⟩⟩ rfl rfl hl.1 rfl (lv_room (Nat.le_of_ble_eq_true rfl)) dX5_says_117 ⟨Nat.zero_le _, Nat.zero_le _⟩) hS (fun q _ h => h.elim) (fun q h => h.elim) (fun r_117 u t H1 locs ht hvm w_117 hB hz1 hk1 hS => ?_)
        try dsimp only at w_117
        have hP := rd_keep hP hk1
        clear hB hk1 hz1 ht hvm u t
        generalize H1 = H at hP hS ⊢
        refine lv_bipush (v := 112) hx hb dX5_says_120 (by decide) ?_
        refine lv_icmp_lt (tgt := 131) hx hb dX5_says_122 (by decide) (fun c_122 => ?_) (fun c_122 => ?_)
        · refine lv_lload_n hx hb dX5_says_131 rfl (lv_at hl 2 rfl) ?_
          exact W.lret (v := va) hx hb hr (fun t ht hW => ⟨⟨va, (), rfl, trivial, trivial⟩, hS.F ht⟩) hS.2.2 dX5_says_132
        · refine lv_lconst (v := 0) hx hb dX5_says_125 (by decide) ?_
          refine lv_lload_n hx hb dX5_says_126 rfl (lv_at hl 2 rfl) ?_
          refine lv_lsub hx hb dX5_says_127 ?_
          refine lv_goto (tgt := 132) hx hb dX5_says_128 (by decide) ?_
          exact W.lret (v := 0 - va) hx hb hr (fun t ht hW => ⟨⟨(0 - va), (), rfl, trivial, trivial⟩, hS.F ht⟩) hS.2.2 dX5_says_132
      · have hk9 := n_lt c_83
        refine lv_ldc2 (v := 10) hx hb hown (hts (.constantLong RX5 101 10) (by decide +kernel)) dX5_says_86 ?_
        refine lv_lload_n hx hb dX5_says_89 rfl (lv_at hl 2 rfl) ?_
        refine lv_lmul hx hb dX5_says_90 ?_
        refine lv_aload_n hx hb dX5_says_91 rfl (lv_at hl 0 rfl) ?_
        refine lv_iload_n hx hb dX5_says_92 rfl (lv_at hl 1 rfl) ?_
        refine lv_iload hx hb dX5_says_93 (lv_at hl 3 rfl) ?_
        have hPc := hP.sub (ws' := [(m0, .inr (6, [.int ce, .int ms, .int mi, .int mt, .int ma, .int mf, .int mk, .int mp, .ref m1, .ref m2, .ref m3, .ref m4, .ref m5, .ref m6, .ref m7, .ref m8, .ref m9, .ref m10, .ref m11, .ref m12, .ref m13, .ref m14, .ref m15, .ref m16, .ref m17, .ref m18, .ref m19])), (m6, .inl (km6, 30, .inl mss)), (m7, .inl (km7, 270, .inl mbs))]) [0, 2, 3] rfl
        have hKc := hK.sub (tys' := [(km6, .int), (km7, .byte)]) [1, 2] rfl
        refine va_calli (va_runV (As := [.int im, .int k]) (rest := [.long (10 * va)]) ⟨hx, hb, hml, hown, hts⟩ (c_X5_digitOf l dC dI m0 m1 m2 m3 m4 m5 m6 m7 m8 m9 m10 m11 m12 m13 m14 m15 m16 m17 m18 m19 km6 km7 mss mbs ce ms mi mt ma mf mk mp im k (him) (ix_9m him hk0 (by omega))) (cwV 2 hts gX5_says_X5_digitOf rfl rfl rfl (by decide +kernel) ⟨Nat.le_of_ble_eq_true rfl, Nat.le_of_ble_eq_true rfl⟩) ⟨fun a U g mk q => by obtain ⟨q0, qP, qK⟩ := q; exact ⟨q0, qP, va_K.moved (u := U) (U := U.calling g mk a) (Vm.Alike.refl U.vm) qK⟩, va_recv hKc hPc (ci := 6) (q0 := 0) rfl rfl, fun U hU hW => ⟨rfl, by rw [hU]; exact hPc, va_K.moved hW.alike hKc⟩⟩ rfl rfl hl.1 rfl (lv_room (Nat.le_of_ble_eq_true rfl)) dX5_says_95 ⟨Nat.zero_le _, Nat.zero_le _⟩) hS (fun q _ h => h.elim) (fun q h => h.elim) (fun r_95 u t H1 locs ht hvm w_95 hB hz1 hk1 hS => ?_)
        try dsimp only at w_95
        have hP := rd_keep hP hk1
        clear hB hk1 hz1 ht hvm u t
        generalize H1 = H at hP hS ⊢
        refine lv_i2l hx hb dX5_says_98 rfl ?_
        refine lv_ladd hx hb dX5_says_99 ?_
        refine lv_lstore_n (lv' := [(2, .long ((10 * va) + r_95.toInt64)), (0, .ref m0), (1, .int im), (4, .int k)]) hx hb dX5_says_100 rfl hl (by decide) rfl (fun ls hl => ?_)
        obtain ⟨i_1, e_i_1⟩ : ∃ y : Int32, y = k + 1 := ⟨_, rfl⟩
        refine lv_iinc (v := i_1) (lv' := [(4, .int i_1), (2, .long ((10 * va) + r_95.toInt64)), (0, .ref m0), (1, .int im)]) hx hb dX5_says_101 hl (k := 3) rfl (by rw [e_i_1]; rfl) (by decide) rfl (fun ls hl => ?_)
        refine lv_goto (tgt := 75) hx hb dX5_says_104 (by decide) ?_
        exact ih ((10 * va) + r_95.toInt64) i_1 _ _ _ ⟨lv_sub hl [2, 3, 1, 0] rfl, hP, hS, by rw [e_i_1, i_p1 (by omega) (by omega)]; omega⟩ (by rw [e_i_1, i_p1 (by omega) (by omega)]; omega)
    · refine lv_aload_n hx hb dX5_says_24 rfl (lv_at hl 1 rfl) ?_
      refine va_get (D := (dC, dI)) (ci := 6) (v := .ref m7) (C := RX5) (T := TX5) (N := 27) hx hb hts (by decide +kernel) hown hK hP 0 rfl rfl 14 (by decide) (hts (.fieldLink RX5 29 "CobolDebuggerModel" "bytes" "[B") (by decide +kernel)) (fun _ h9 => h9) rfl dX5_says_25 ?_
      refine lv_bipush (v := 9) hx hb dX5_says_28 (by decide) ?_
      refine lv_iload_n hx hb dX5_says_30 rfl (lv_at hl 2 rfl) ?_
      refine lv_imul hx hb dX5_says_31 ?_
      refine va_bald hx hb hK hP 3 2 rfl rfl (i := 9 * im) (ix_90 him) dX5_says_32 ?_
      refine lv_i2l hx hb dX5_says_33 rfl ?_
      refine lv_lstore_n (lv' := [(2, .long ((mbs (9 * im).toNatClampNeg).toInt64)), (0, .ref m0), (1, .int im)]) hx hb dX5_says_34 rfl hl (by decide) rfl (fun ls hl => ?_)
      refine lv_iconst (v := 1) hx hb dX5_says_35 (by decide) ?_
      refine lv_istore (lv' := [(4, .int 1), (2, .long ((mbs (9 * im).toNatClampNeg).toInt64)), (0, .ref m0), (1, .int im)]) hx hb dX5_says_36 hl (by decide) rfl (fun ls hl => ?_)
      refine wl2 (μ := fun (va : Int64) (k : Int32) => ((mss im.toNatClampNeg).toInt - k.toInt).toNat) (I := fun (va : Int64) (k : Int32) (ls : Array Slot) (H : Heap) (locs : List Loc) => lv_has ls 5 [(0, .ref m0), (1, .int im), (2, .long va), (4, .int k)] ∧ va_P (dC, dI) vwCl [(m0, .inr (6, [.int ce, .int ms, .int mi, .int mt, .int ma, .int mf, .int mk, .int mp, .ref m1, .ref m2, .ref m3, .ref m4, .ref m5, .ref m6, .ref m7, .ref m8, .ref m9, .ref m10, .ref m11, .ref m12, .ref m13, .ref m14, .ref m15, .ref m16, .ref m17, .ref m18, .ref m19])), (m5, .inl (km5, 30, .inl mus)), (m6, .inl (km6, 30, .inl mss)), (m7, .inl (km7, 270, .inl mbs))] H ∧ va_S (fun _ => False) s.heap H locs ∧ (0 ≤ k.toInt)) (fun va k ls H locs hI ih => ?_) ((mbs (9 * im).toNatClampNeg).toInt64) 1 ls _ _ ⟨lv_sub hl [2, 3, 1, 0] rfl, hP, hS, by decide⟩
      obtain ⟨hl, hP, hS, hk0⟩ := hI
      refine lv_iload hx hb dX5_says_38 (lv_at hl 3 rfl) ?_
      refine lv_aload_n hx hb dX5_says_40 rfl (lv_at hl 0 rfl) ?_
      refine va_get (D := (dC, dI)) (ci := 6) (v := .ref m6) (C := RX5) (T := TX5) (N := 27) hx hb hts (by decide +kernel) hown hK hP 0 rfl rfl 13 (by decide) (hts (.fieldLink RX5 26 "CobolDebuggerModel" "sizes" "[I") (by decide +kernel)) (fun _ h9 => h9) rfl dX5_says_41 ?_
      refine lv_iload_n hx hb dX5_says_44 rfl (lv_at hl 1 rfl) ?_
      refine va_iald hx hb hK hP 2 1 rfl rfl (i := im) him dX5_says_45 ?_
      refine lv_icmp_ge (tgt := 70) hx hb dX5_says_46 (by decide) (fun c_46 => ?_) (fun c_46 => ?_)
      · refine lv_lload_n hx hb dX5_says_70 rfl (lv_at hl 2 rfl) ?_
        exact W.lret (v := va) hx hb hr (fun t ht hW => ⟨⟨va, (), rfl, trivial, trivial⟩, hS.F ht⟩) hS.2.2 dX5_says_71
      · have hk9 := n_lt c_46
        refine lv_ldc2 (v := 256) hx hb hown (hts (.constantLong RX5 99 256) (by decide +kernel)) dX5_says_49 ?_
        refine lv_lload_n hx hb dX5_says_52 rfl (lv_at hl 2 rfl) ?_
        refine lv_lmul hx hb dX5_says_53 ?_
        refine lv_aload_n hx hb dX5_says_54 rfl (lv_at hl 0 rfl) ?_
        refine lv_iload_n hx hb dX5_says_55 rfl (lv_at hl 1 rfl) ?_
        refine lv_iload hx hb dX5_says_56 (lv_at hl 3 rfl) ?_
        have hPc := hP.sub (ws' := [(m0, .inr (6, [.int ce, .int ms, .int mi, .int mt, .int ma, .int mf, .int mk, .int mp, .ref m1, .ref m2, .ref m3, .ref m4, .ref m5, .ref m6, .ref m7, .ref m8, .ref m9, .ref m10, .ref m11, .ref m12, .ref m13, .ref m14, .ref m15, .ref m16, .ref m17, .ref m18, .ref m19])), (m7, .inl (km7, 270, .inl mbs))]) [0, 3] rfl
        have hKc := hK.sub (tys' := [(km7, .byte)]) [2] rfl
        refine va_calli (va_runV (As := [.int im, .int k]) (rest := [.long (256 * va)]) ⟨hx, hb, hml, hown, hts⟩ (c_X5_octetOf l dC dI m0 m1 m2 m3 m4 m5 m6 m7 m8 m9 m10 m11 m12 m13 m14 m15 m16 m17 m18 m19 km7 mbs ce ms mi mt ma mf mk mp im k (ix_9m him hk0 (by omega))) (cwV 2 hts gX5_says_X5_octetOf rfl rfl rfl (by decide +kernel) ⟨Nat.le_of_ble_eq_true rfl, Nat.le_of_ble_eq_true rfl⟩) ⟨fun a U g mk q => by obtain ⟨q0, qP, qK⟩ := q; exact ⟨q0, qP, va_K.moved (u := U) (U := U.calling g mk a) (Vm.Alike.refl U.vm) qK⟩, va_recv hKc hPc (ci := 6) (q0 := 0) rfl rfl, fun U hU hW => ⟨rfl, by rw [hU]; exact hPc, va_K.moved hW.alike hKc⟩⟩ rfl rfl hl.1 rfl (lv_room (Nat.le_of_ble_eq_true rfl)) dX5_says_58 ⟨Nat.zero_le _, Nat.zero_le _⟩) hS (fun q _ h => h.elim) (fun q h => h.elim) (fun r_58 u t H1 locs ht hvm w_58 hB hz1 hk1 hS => ?_)
        try dsimp only at w_58
        have hP := rd_keep hP hk1
        clear hB hk1 hz1 ht hvm u t
        generalize H1 = H at hP hS ⊢
        refine lv_i2l hx hb dX5_says_61 rfl ?_
        refine lv_ladd hx hb dX5_says_62 ?_
        refine lv_lstore_n (lv' := [(2, .long ((256 * va) + r_58.toInt64)), (0, .ref m0), (1, .int im), (4, .int k)]) hx hb dX5_says_63 rfl hl (by decide) rfl (fun ls hl => ?_)
        obtain ⟨i_2, e_i_2⟩ : ∃ y : Int32, y = k + 1 := ⟨_, rfl⟩
        refine lv_iinc (v := i_2) (lv' := [(4, .int i_2), (2, .long ((256 * va) + r_58.toInt64)), (0, .ref m0), (1, .int im)]) hx hb dX5_says_64 hl (k := 3) rfl (by rw [e_i_2]; rfl) (by decide) rfl (fun ls hl => ?_)
        refine lv_goto (tgt := 38) hx hb dX5_says_67 (by decide) ?_
        exact ih ((256 * va) + r_58.toInt64) i_2 _ _ _ ⟨lv_sub hl [2, 3, 1, 0] rfl, hP, hS, by rw [e_i_2, i_p1 (by omega) (by omega)]; omega⟩ (by rw [e_i_2, i_p1 (by omega) (by omega)]; omega)
  · refine lv_lconst (v := 0) hx hb dX5_says_12 (by decide) ?_
    exact W.lret (v := 0) hx hb hr (fun t ht hW => ⟨⟨0, (), rfl, trivial, trivial⟩, hS.F ht⟩) hS.2.2 dX5_says_13

set_option maxHeartbeats 4000000 in
set_option maxRecDepth 100000 in
theorem c_X5_become (l : Launch) (dC : Nat → ClassId) (dI : Nat → Nat → Nat) (sz : Nat) (m0 m1 m2 m3 m4 m5 m6 m7 m8 m9 m10 m11 m12 m13 m14 m15 m16 m17 m18 m19 : Nat) (km5 km6 km7 : ClassId) (mus mss mbs : Nat → Int32) (ce ms mi mt ma mf mk mp : Int32) (im : Int32) (v : Int64) (him : vp_in im 30) (hs1 : 1 ≤ (mss im.toNatClampNeg).toInt) (hs9 : (mss im.toNatClampNeg).toInt ≤ 9) : Met l yX5_become wsX5_become ({ frames := 0, cells := 0, slots := 0, locals := 0 }) (va_Pc [.ref m0, .int im, .long v] (fun U => U.heap.size = sz ∧ va_P (dC, dI) vwCl [(m0, .inr (6, [.int ce, .int ms, .int mi, .int mt, .int ma, .int mf, .int mk, .int mp, .ref m1, .ref m2, .ref m3, .ref m4, .ref m5, .ref m6, .ref m7, .ref m8, .ref m9, .ref m10, .ref m11, .ref m12, .ref m13, .ref m14, .ref m15, .ref m16, .ref m17, .ref m18, .ref m19])), (m5, .inl (km5, 30, .inl mus)), (m6, .inl (km6, 30, .inl mss)), (m7, .inl (km7, 270, .inl mbs))] U.heap ∧ va_K (dC, dI) vwCl [(km5, .int), (km6, .int), (km7, .byte)] U ∧ va_D (fun _ => True) [(m0, .inr (6, [.int ce, .int ms, .int mi, .int mt, .int ma, .int mf, .int mk, .int mp, .ref m1, .ref m2, .ref m3, .ref m4, .ref m5, .ref m6, .ref m7, .ref m8, .ref m9, .ref m10, .ref m11, .ref m12, .ref m13, .ref m14, .ref m15, .ref m16, .ref m17, .ref m18, .ref m19])), (m5, .inl (km5, 30, .inl mus)), (m6, .inl (km6, 30, .inl mss)), (m7, .inl (km7, 270, .inl mbs))])) (va_Qv (fun (u : (Nat → Int32)) => fitB mbs → fitB (u)) (fun (u : (Nat → Int32)) (t : State) => va_P (dC, dI) vwCl [(m0, .inr (6, [.int ce, .int ms, .int mi, .int mt, .int ma, .int mf, .int mk, .int mp, .ref m1, .ref m2, .ref m3, .ref m4, .ref m5, .ref m6, .ref m7, .ref m8, .ref m9, .ref m10, .ref m11, .ref m12, .ref m13, .ref m14, .ref m15, .ref m16, .ref m17, .ref m18, .ref m19])), (m5, .inl (km5, 30, .inl mus)), (m6, .inl (km6, 30, .inl mss)), (m7, .inl (km7, 270, .inl u))] t.heap ∧ va_D (va_A [(m0, .inr (6, [.int ce, .int ms, .int mi, .int mt, .int ma, .int mf, .int mk, .int mp, .ref m1, .ref m2, .ref m3, .ref m4, .ref m5, .ref m6, .ref m7, .ref m8, .ref m9, .ref m10, .ref m11, .ref m12, .ref m13, .ref m14, .ref m15, .ref m16, .ref m17, .ref m18, .ref m19])), (m5, .inl (km5, 30, .inl mus)), (m6, .inl (km6, 30, .inl mss)), (m7, .inl (km7, 270, .inl mbs))] sz) [(m0, .inr (6, [.int ce, .int ms, .int mi, .int mt, .int ma, .int mf, .int mk, .int mp, .ref m1, .ref m2, .ref m3, .ref m4, .ref m5, .ref m6, .ref m7, .ref m8, .ref m9, .ref m10, .ref m11, .ref m12, .ref m13, .ref m14, .ref m15, .ref m16, .ref m17, .ref m18, .ref m19])), (m5, .inl (km5, 30, .inl mus)), (m6, .inl (km6, 30, .inl mss)), (m7, .inl (km7, 270, .inl u))]) (va_A [(m0, .inr (6, [.int ce, .int ms, .int mi, .int mt, .int ma, .int mf, .int mk, .int mp, .ref m1, .ref m2, .ref m3, .ref m4, .ref m5, .ref m6, .ref m7, .ref m8, .ref m9, .ref m10, .ref m11, .ref m12, .ref m13, .ref m14, .ref m15, .ref m16, .ref m17, .ref m18, .ref m19])), (m5, .inl (km5, 30, .inl mus)), (m6, .inl (km6, 30, .inl mss)), (m7, .inl (km7, 270, .inl mbs))] sz)) 0 0 (va_A [(m0, .inr (6, [.int ce, .int ms, .int mi, .int mt, .int ma, .int mf, .int mk, .int mp, .ref m1, .ref m2, .ref m3, .ref m4, .ref m5, .ref m6, .ref m7, .ref m8, .ref m9, .ref m10, .ref m11, .ref m12, .ref m13, .ref m14, .ref m15, .ref m16, .ref m17, .ref m18, .ref m19])), (m5, .inl (km5, 30, .inl mus)), (m6, .inl (km6, 30, .inl mss)), (m7, .inl (km7, 270, .inl mbs))] sz) := by
  refine Met.ofW (cc := cX5_become) (maxL := 11) (ret := none) (by decide) rfl ?_
  intro p e s m args below meth c s₁ B hml hv
  obtain ⟨rfl, hsz, hP, hK, hD0⟩ := hv
  have hx := B.exec
  have hb := B.bytes
  have hr := B.returns
  have hts := atoms_spec (ws := wsX5_become) B.pre
  have hown : s.vm.findClass RX5 = some m.cls := findClass_of_methodNamed B.named
  have hlocks := B.notSynchronized
  subst hsz
  have hD := hD0.self (sz := s.heap.size)
  generalize hAe : va_A [(m0, .inr (6, [.int ce, .int ms, .int mi, .int mt, .int ma, .int mf, .int mk, .int mp, .ref m1, .ref m2, .ref m3, .ref m4, .ref m5, .ref m6, .ref m7, .ref m8, .ref m9, .ref m10, .ref m11, .ref m12, .ref m13, .ref m14, .ref m15, .ref m16, .ref m17, .ref m18, .ref m19])), (m5, .inl (km5, 30, .inl mus)), (m6, .inl (km6, 30, .inl mss)), (m7, .inl (km7, 270, .inl mbs))] s.heap.size = A at hD ⊢
  have hA : ∀ q : Nat, s.heap.size ≤ q → A q := fun q h => by rw [← hAe]; exact Or.inr h
  have hS : va_S A s.heap s.heap [] := va_S.rf
  have hl := lv_entry ([.ref m0, .int im, .long v]) (n := 11) (Nat.le_of_ble_eq_true rfl)
  rw [lg_entry_eq]
  generalize (lg_sl ([.ref m0, .int im, .long v]) ++ List.replicate (11 - (lg_sl ([.ref m0, .int im, .long v])).length) Slot.unset).toArray = ls at hl ⊢
  have hl : lv_has ls 11 [(0, .ref m0), (1, .int im), (2, .long v)] := hl
  refine lv_aload_n hx hb dX5_become_0 rfl (lv_at hl 0 rfl) ?_
  refine va_get (D := (dC, dI)) (ci := 6) (v := .ref m5) (C := RX5) (T := TX5) (N := 27) hx hb hts (by decide +kernel) hown hK hP 0 rfl rfl 12 (by decide) (hts (.fieldLink RX5 23 "CobolDebuggerModel" "usages" "[I") (by decide +kernel)) (fun _ h9 => h9) rfl dX5_become_1 ?_
  refine lv_iload_n hx hb dX5_become_4 rfl (lv_at hl 1 rfl) ?_
  refine va_iald hx hb hK hP 1 0 rfl rfl (i := im) him dX5_become_5 ?_
  refine lv_iconst (v := 2) hx hb dX5_become_6 (by decide) ?_
  refine lv_icmp_ne (tgt := 11) hx hb dX5_become_7 (by decide) (fun c_7 => ?_) (fun c_7 => ?_)
  · refine lv_lload_n hx hb dX5_become_11 rfl (lv_at hl 2 rfl) ?_
    refine lv_lstore (lv' := [(4, .long v), (0, .ref m0), (1, .int im), (2, .long v)]) hx hb dX5_become_12 hl (by decide) rfl (fun ls hl => ?_)
    refine lv_aload_n hx hb dX5_become_14 rfl (lv_at hl 1 rfl) ?_
    refine va_get (D := (dC, dI)) (ci := 6) (v := .ref m5) (C := RX5) (T := TX5) (N := 27) hx hb hts (by decide +kernel) hown hK hP 0 rfl rfl 12 (by decide) (hts (.fieldLink RX5 23 "CobolDebuggerModel" "usages" "[I") (by decide +kernel)) (fun _ h9 => h9) rfl dX5_become_15 ?_
    refine lv_iload_n hx hb dX5_become_18 rfl (lv_at hl 2 rfl) ?_
    refine va_iald hx hb hK hP 1 0 rfl rfl (i := im) him dX5_become_19 ?_
    refine lv_iconst (v := 1) hx hb dX5_become_20 (by decide) ?_
    refine lv_icmp_ne (tgt := 69) hx hb dX5_become_21 (by decide) (fun c_21 => ?_) (fun c_21 => ?_)
    · refine lv_lconst (v := 1) hx hb dX5_become_69 (by decide) ?_
      refine lv_lstore (lv' := [(6, .long 1), (4, .long v), (0, .ref m0), (1, .int im), (2, .long v)]) hx hb dX5_become_70 hl (by decide) rfl (fun ls hl => ?_)
      refine lv_iconst (v := 0) hx hb dX5_become_72 (by decide) ?_
      refine lv_istore (lv' := [(8, .int 0), (6, .long 1), (4, .long v), (0, .ref m0), (1, .int im), (2, .long v)]) hx hb dX5_become_73 hl (by decide) rfl (fun ls hl => ?_)
      refine wl3 (μ := fun (te : Int64) (i : Int32) (k : Nat) => 9 - k) (I := fun (te : Int64) (i : Int32) (k : Nat) (ls : Array Slot) (H : Heap) (locs : List Loc) => lv_has ls 11 [(0, .ref m0), (1, .int im), (2, .long v), (6, .long te), (8, .int i)] ∧ va_P (dC, dI) vwCl [(m0, .inr (6, [.int ce, .int ms, .int mi, .int mt, .int ma, .int mf, .int mk, .int mp, .ref m1, .ref m2, .ref m3, .ref m4, .ref m5, .ref m6, .ref m7, .ref m8, .ref m9, .ref m10, .ref m11, .ref m12, .ref m13, .ref m14, .ref m15, .ref m16, .ref m17, .ref m18, .ref m19])), (m5, .inl (km5, 30, .inl mus)), (m6, .inl (km6, 30, .inl mss)), (m7, .inl (km7, 270, .inl mbs))] H ∧ va_D A [(m0, .inr (6, [.int ce, .int ms, .int mi, .int mt, .int ma, .int mf, .int mk, .int mp, .ref m1, .ref m2, .ref m3, .ref m4, .ref m5, .ref m6, .ref m7, .ref m8, .ref m9, .ref m10, .ref m11, .ref m12, .ref m13, .ref m14, .ref m15, .ref m16, .ref m17, .ref m18, .ref m19])), (m5, .inl (km5, 30, .inl mus)), (m6, .inl (km6, 30, .inl mss)), (m7, .inl (km7, 270, .inl mbs))] ∧ va_S A s.heap H locs ∧ (te = tn_v k) ∧ (i.toInt = (k : Int)) ∧ (k ≤ 9)) (fun te i k ls H locs hI ih => ?_) 1 0 0 ls _ _ ⟨lv_sub hl [3, 4, 5, 1, 0] rfl, hP, hD, hS, rfl, by decide, Nat.zero_le _⟩
      obtain ⟨hl, hP, hD, hS, et, ei, hk⟩ := hI
      refine lv_iload hx hb dX5_become_75 (lv_at hl 4 rfl) ?_
      refine lv_aload_n hx hb dX5_become_77 rfl (lv_at hl 0 rfl) ?_
      refine va_get (D := (dC, dI)) (ci := 6) (v := .ref m6) (C := RX5) (T := TX5) (N := 27) hx hb hts (by decide +kernel) hown hK hP 0 rfl rfl 13 (by decide) (hts (.fieldLink RX5 26 "CobolDebuggerModel" "sizes" "[I") (by decide +kernel)) (fun _ h9 => h9) rfl dX5_become_78 ?_
      refine lv_iload_n hx hb dX5_become_81 rfl (lv_at hl 1 rfl) ?_
      refine va_iald hx hb hK hP 2 1 rfl rfl (i := im) him dX5_become_82 ?_
      refine lv_icmp_ge (tgt := 100) hx hb dX5_become_83 (by decide) (fun c_83 => ?_) (fun c_83 => ?_)
      · refine lv_lload_n hx hb dX5_become_100 rfl (lv_at hl 2 rfl) ?_
        refine lv_lload hx hb dX5_become_101 (lv_at hl 3 rfl) ?_
        refine lv_lrem hx hb dX5_become_103 (by rw [et]; exact tn_ne _) ?_
        refine lv_topl (fun lw e_lw => ?_)
        refine lv_lstore (lv' := [(8, .long lw), (0, .ref m0), (1, .int im), (2, .long v), (6, .long te)]) hx hb dX5_become_104 hl (by decide) rfl (fun ls hl => ?_)
        refine lv_lload hx hb dX5_become_106 (lv_at hl 0 rfl) ?_
        refine lv_lconst (v := 0) hx hb dX5_become_108 (by decide) ?_
        refine W.lcmp hx hb dX5_become_109 ?_
        refine lv_if_ge (tgt := 120) hx hb dX5_become_110 (by decide) (fun c_110 => ?_) (fun c_110 => ?_)
        · refine lv_lload hx hb dX5_become_120 (lv_at hl 0 rfl) ?_
          refine lv_lstore (lv' := [(4, .long lw), (8, .long lw), (0, .ref m0), (1, .int im), (2, .long v), (6, .long te)]) hx hb dX5_become_122 hl (by decide) rfl (fun ls hl => ?_)
          refine lv_aload_n hx hb dX5_become_124 rfl (lv_at hl 2 rfl) ?_
          refine va_get (D := (dC, dI)) (ci := 6) (v := .ref m6) (C := RX5) (T := TX5) (N := 27) hx hb hts (by decide +kernel) hown hK hP 0 rfl rfl 13 (by decide) (hts (.fieldLink RX5 26 "CobolDebuggerModel" "sizes" "[I") (by decide +kernel)) (fun _ h9 => h9) rfl dX5_become_125 ?_
          refine lv_iload_n hx hb dX5_become_128 rfl (lv_at hl 3 rfl) ?_
          refine va_iald hx hb hK hP 2 1 rfl rfl (i := im) him dX5_become_129 ?_
          refine lv_iconst (v := 1) hx hb dX5_become_130 (by decide) ?_
          refine lv_isub hx hb dX5_become_131 ?_
          refine lv_istore (lv' := [(10, .int ((mss im.toNatClampNeg) - 1)), (4, .long lw), (8, .long lw), (0, .ref m0), (1, .int im), (2, .long v), (6, .long te)]) hx hb dX5_become_132 hl (by decide) rfl (fun ls hl => ?_)
          refine wl3 (μ := fun (lf : Int64) (k : Int32) (bx : Nat → Int32) => (k.toInt + 1).toNat) (I := fun (lf : Int64) (k : Int32) (bx : Nat → Int32) (ls : Array Slot) (H : Heap) (locs : List Loc) => lv_has ls 11 [(0, .ref m0), (1, .int im), (4, .long lf), (8, .long lw), (10, .int k)] ∧ va_P (dC, dI) vwCl [(m0, .inr (6, [.int ce, .int ms, .int mi, .int mt, .int ma, .int mf, .int mk, .int mp, .ref m1, .ref m2, .ref m3, .ref m4, .ref m5, .ref m6, .ref m7, .ref m8, .ref m9, .ref m10, .ref m11, .ref m12, .ref m13, .ref m14, .ref m15, .ref m16, .ref m17, .ref m18, .ref m19])), (m5, .inl (km5, 30, .inl mus)), (m6, .inl (km6, 30, .inl mss)), (m7, .inl (km7, 270, .inl bx))] H ∧ va_D A [(m0, .inr (6, [.int ce, .int ms, .int mi, .int mt, .int ma, .int mf, .int mk, .int mp, .ref m1, .ref m2, .ref m3, .ref m4, .ref m5, .ref m6, .ref m7, .ref m8, .ref m9, .ref m10, .ref m11, .ref m12, .ref m13, .ref m14, .ref m15, .ref m16, .ref m17, .ref m18, .ref m19])), (m5, .inl (km5, 30, .inl mus)), (m6, .inl (km6, 30, .inl mss)), (m7, .inl (km7, 270, .inl bx))] ∧ va_S A s.heap H locs ∧ (fitB mbs → fitB bx) ∧ (k.toInt < 9)) (fun lf k bx ls H locs hI ih => ?_) lw ((mss im.toNatClampNeg) - 1) mbs ls _ _ ⟨lv_sub hl [3, 4, 1, 2, 0] rfl, hP, hD, hS, id, by rw [i_s1 (by omega)]; omega⟩
          obtain ⟨hl, hP, hD, hS, hfx, hk9⟩ := hI
          refine lv_iload hx hb dX5_become_134 (lv_at hl 4 rfl) ?_
          refine lv_if_lt (tgt := 205) hx hb dX5_become_136 (by decide) (fun c_136 => ?_) (fun c_136 => ?_)
          · exact W.vret hx hb hr (fun t ht hW => ⟨⟨bx, rfl, hfx, by rw [ht]; exact hP, hD⟩, hS.F ht⟩) hS.2.2 dX5_become_205
          · have h0k := i_n0 c_136
            refine lv_aload_n hx hb dX5_become_139 rfl (lv_at hl 0 rfl) ?_
            refine va_get (D := (dC, dI)) (ci := 6) (v := .ref m7) (C := RX5) (T := TX5) (N := 27) hx hb hts (by decide +kernel) hown hK hP 0 rfl rfl 14 (by decide) (hts (.fieldLink RX5 29 "CobolDebuggerModel" "bytes" "[B") (by decide +kernel)) (fun _ h9 => h9) rfl dX5_become_140 ?_
            refine lv_bipush (v := 9) hx hb dX5_become_143 (by decide) ?_
            refine lv_iload_n hx hb dX5_become_145 rfl (lv_at hl 1 rfl) ?_
            refine lv_imul hx hb dX5_become_146 ?_
            refine lv_iload hx hb dX5_become_147 (lv_at hl 4 rfl) ?_
            refine lv_iadd hx hb dX5_become_149 ?_
            refine lv_ldc2 (v := 48) hx hb hown (hts (.constantLong RX5 103 48) (by decide +kernel)) dX5_become_150 ?_
            refine lv_lload hx hb dX5_become_153 (lv_at hl 2 rfl) ?_
            refine lv_ldc2 (v := 10) hx hb hown (hts (.constantLong RX5 101 10) (by decide +kernel)) dX5_become_155 ?_
            refine lv_lrem hx hb dX5_become_158 (by decide) ?_
            refine lv_ladd hx hb dX5_become_159 ?_
            refine lv_iload hx hb dX5_become_160 (lv_at hl 4 rfl) ?_
            refine lv_aload_n hx hb dX5_become_162 rfl (lv_at hl 0 rfl) ?_
            refine va_get (D := (dC, dI)) (ci := 6) (v := .ref m6) (C := RX5) (T := TX5) (N := 27) hx hb hts (by decide +kernel) hown hK hP 0 rfl rfl 13 (by decide) (hts (.fieldLink RX5 26 "CobolDebuggerModel" "sizes" "[I") (by decide +kernel)) (fun _ h9 => h9) rfl dX5_become_163 ?_
            refine lv_iload_n hx hb dX5_become_166 rfl (lv_at hl 1 rfl) ?_
            refine va_iald hx hb hK hP 2 1 rfl rfl (i := im) him dX5_become_167 ?_
            refine lv_iconst (v := 1) hx hb dX5_become_168 (by decide) ?_
            refine lv_isub hx hb dX5_become_169 ?_
            refine lv_icmp_ne (tgt := 185) hx hb dX5_become_170 (by decide) (fun c_170 => ?_) (fun c_170 => ?_)
            · refine lv_iconst (v := 0) hx hb dX5_become_185 (by decide) ?_
              refine lv_i2l hx hb dX5_become_186 rfl ?_
              refine lv_ladd hx hb dX5_become_187 ?_
              refine lv_l2i hx hb dX5_become_188 rfl ?_
              refine lv_i2b hx hb dX5_become_189 rfl ?_
              refine va_bast hx hb hK hP hD hS 3 2 rfl rfl (i := (9 * im) + k) (ix_9m him h0k hk9) dX5_become_190 (fun H locs hP hD hS => ?_)
              have hP : va_P (dC, dI) vwCl [(m0, .inr (6, [.int ce, .int ms, .int mi, .int mt, .int ma, .int mf, .int mk, .int mp, .ref m1, .ref m2, .ref m3, .ref m4, .ref m5, .ref m6, .ref m7, .ref m8, .ref m9, .ref m10, .ref m11, .ref m12, .ref m13, .ref m14, .ref m15, .ref m16, .ref m17, .ref m18, .ref m19])), (m5, .inl (km5, 30, .inl mus)), (m6, .inl (km6, 30, .inl mss)), (m7, .inl (km7, 270, .inl (upd bx ((9 * im) + k).toNatClampNeg (vp_nar .byte ((((48 + (lf - lf / 10 * 10)) + ((0 : Int32).toInt64)).toInt32).toInt8.toInt32)))))] H := hP
              have hD : va_D A [(m0, .inr (6, [.int ce, .int ms, .int mi, .int mt, .int ma, .int mf, .int mk, .int mp, .ref m1, .ref m2, .ref m3, .ref m4, .ref m5, .ref m6, .ref m7, .ref m8, .ref m9, .ref m10, .ref m11, .ref m12, .ref m13, .ref m14, .ref m15, .ref m16, .ref m17, .ref m18, .ref m19])), (m5, .inl (km5, 30, .inl mus)), (m6, .inl (km6, 30, .inl mss)), (m7, .inl (km7, 270, .inl (upd bx ((9 * im) + k).toNatClampNeg (vp_nar .byte ((((48 + (lf - lf / 10 * 10)) + ((0 : Int32).toInt64)).toInt32).toInt8.toInt32)))))] := hD
              obtain ⟨g_1, e_g_1⟩ : ∃ y, y = upd bx ((9 * im) + k).toNatClampNeg (vp_nar .byte ((((48 + (lf - lf / 10 * 10)) + ((0 : Int32).toInt64)).toInt32).toInt8.toInt32)) := ⟨_, rfl⟩
              rw [← e_g_1] at hP hD
              refine lv_lload hx hb dX5_become_191 (lv_at hl 2 rfl) ?_
              refine lv_ldc2 (v := 10) hx hb hown (hts (.constantLong RX5 101 10) (by decide +kernel)) dX5_become_193 ?_
              refine lv_ldiv hx hb dX5_become_196 (by decide) ?_
              refine lv_lstore (lv' := [(4, .long (lf / 10)), (0, .ref m0), (1, .int im), (8, .long lw), (10, .int k)]) hx hb dX5_become_197 hl (by decide) rfl (fun ls hl => ?_)
              obtain ⟨i_2, e_i_2⟩ : ∃ y : Int32, y = k + (-1) := ⟨_, rfl⟩
              refine lv_iinc (v := i_2) (lv' := [(10, .int i_2), (4, .long (lf / 10)), (0, .ref m0), (1, .int im), (8, .long lw)]) hx hb dX5_become_199 hl (k := 4) rfl (by rw [e_i_2]; rfl) (by decide) rfl (fun ls hl => ?_)
              refine lv_goto (tgt := 134) hx hb dX5_become_202 (by decide) ?_
              exact ih (lf / 10) i_2 g_1 _ _ _ ⟨lv_sub hl [2, 3, 1, 4, 0] rfl, hP, hD, hS, fun h => by rw [e_g_1]; exact fitB_upd (hfx h) _ _, by rw [e_i_2, i_m1 h0k]; omega⟩ (by rw [e_i_2, i_m1 h0k]; omega)
            · refine lv_lload hx hb dX5_become_173 (lv_at hl 3 rfl) ?_
              refine lv_lconst (v := 0) hx hb dX5_become_175 (by decide) ?_
              refine W.lcmp hx hb dX5_become_176 ?_
              refine lv_if_ge (tgt := 185) hx hb dX5_become_177 (by decide) (fun c_177 => ?_) (fun c_177 => ?_)
              · refine lv_iconst (v := 0) hx hb dX5_become_185 (by decide) ?_
                refine lv_i2l hx hb dX5_become_186 rfl ?_
                refine lv_ladd hx hb dX5_become_187 ?_
                refine lv_l2i hx hb dX5_become_188 rfl ?_
                refine lv_i2b hx hb dX5_become_189 rfl ?_
                refine va_bast hx hb hK hP hD hS 3 2 rfl rfl (i := (9 * im) + k) (ix_9m him h0k hk9) dX5_become_190 (fun H locs hP hD hS => ?_)
                have hP : va_P (dC, dI) vwCl [(m0, .inr (6, [.int ce, .int ms, .int mi, .int mt, .int ma, .int mf, .int mk, .int mp, .ref m1, .ref m2, .ref m3, .ref m4, .ref m5, .ref m6, .ref m7, .ref m8, .ref m9, .ref m10, .ref m11, .ref m12, .ref m13, .ref m14, .ref m15, .ref m16, .ref m17, .ref m18, .ref m19])), (m5, .inl (km5, 30, .inl mus)), (m6, .inl (km6, 30, .inl mss)), (m7, .inl (km7, 270, .inl (upd bx ((9 * im) + k).toNatClampNeg (vp_nar .byte ((((48 + (lf - lf / 10 * 10)) + ((0 : Int32).toInt64)).toInt32).toInt8.toInt32)))))] H := hP
                have hD : va_D A [(m0, .inr (6, [.int ce, .int ms, .int mi, .int mt, .int ma, .int mf, .int mk, .int mp, .ref m1, .ref m2, .ref m3, .ref m4, .ref m5, .ref m6, .ref m7, .ref m8, .ref m9, .ref m10, .ref m11, .ref m12, .ref m13, .ref m14, .ref m15, .ref m16, .ref m17, .ref m18, .ref m19])), (m5, .inl (km5, 30, .inl mus)), (m6, .inl (km6, 30, .inl mss)), (m7, .inl (km7, 270, .inl (upd bx ((9 * im) + k).toNatClampNeg (vp_nar .byte ((((48 + (lf - lf / 10 * 10)) + ((0 : Int32).toInt64)).toInt32).toInt8.toInt32)))))] := hD
                obtain ⟨g_3, e_g_3⟩ : ∃ y, y = upd bx ((9 * im) + k).toNatClampNeg (vp_nar .byte ((((48 + (lf - lf / 10 * 10)) + ((0 : Int32).toInt64)).toInt32).toInt8.toInt32)) := ⟨_, rfl⟩
                rw [← e_g_3] at hP hD
                refine lv_lload hx hb dX5_become_191 (lv_at hl 2 rfl) ?_
                refine lv_ldc2 (v := 10) hx hb hown (hts (.constantLong RX5 101 10) (by decide +kernel)) dX5_become_193 ?_
                refine lv_ldiv hx hb dX5_become_196 (by decide) ?_
                refine lv_lstore (lv' := [(4, .long (lf / 10)), (0, .ref m0), (1, .int im), (8, .long lw), (10, .int k)]) hx hb dX5_become_197 hl (by decide) rfl (fun ls hl => ?_)
                obtain ⟨i_4, e_i_4⟩ : ∃ y : Int32, y = k + (-1) := ⟨_, rfl⟩
                refine lv_iinc (v := i_4) (lv' := [(10, .int i_4), (4, .long (lf / 10)), (0, .ref m0), (1, .int im), (8, .long lw)]) hx hb dX5_become_199 hl (k := 4) rfl (by rw [e_i_4]; rfl) (by decide) rfl (fun ls hl => ?_)
                refine lv_goto (tgt := 134) hx hb dX5_become_202 (by decide) ?_
                exact ih (lf / 10) i_4 g_3 _ _ _ ⟨lv_sub hl [2, 3, 1, 4, 0] rfl, hP, hD, hS, fun h => by rw [e_g_3]; exact fitB_upd (hfx h) _ _, by rw [e_i_4, i_m1 h0k]; omega⟩ (by rw [e_i_4, i_m1 h0k]; omega)
              · refine lv_bipush (v := 64) hx hb dX5_become_180 (by decide) ?_
                refine lv_goto (tgt := 186) hx hb dX5_become_182 (by decide) ?_
                refine lv_i2l hx hb dX5_become_186 rfl ?_
                refine lv_ladd hx hb dX5_become_187 ?_
                refine lv_l2i hx hb dX5_become_188 rfl ?_
                refine lv_i2b hx hb dX5_become_189 rfl ?_
                refine va_bast hx hb hK hP hD hS 3 2 rfl rfl (i := (9 * im) + k) (ix_9m him h0k hk9) dX5_become_190 (fun H locs hP hD hS => ?_)
                have hP : va_P (dC, dI) vwCl [(m0, .inr (6, [.int ce, .int ms, .int mi, .int mt, .int ma, .int mf, .int mk, .int mp, .ref m1, .ref m2, .ref m3, .ref m4, .ref m5, .ref m6, .ref m7, .ref m8, .ref m9, .ref m10, .ref m11, .ref m12, .ref m13, .ref m14, .ref m15, .ref m16, .ref m17, .ref m18, .ref m19])), (m5, .inl (km5, 30, .inl mus)), (m6, .inl (km6, 30, .inl mss)), (m7, .inl (km7, 270, .inl (upd bx ((9 * im) + k).toNatClampNeg (vp_nar .byte ((((48 + (lf - lf / 10 * 10)) + ((64 : Int32).toInt64)).toInt32).toInt8.toInt32)))))] H := hP
                have hD : va_D A [(m0, .inr (6, [.int ce, .int ms, .int mi, .int mt, .int ma, .int mf, .int mk, .int mp, .ref m1, .ref m2, .ref m3, .ref m4, .ref m5, .ref m6, .ref m7, .ref m8, .ref m9, .ref m10, .ref m11, .ref m12, .ref m13, .ref m14, .ref m15, .ref m16, .ref m17, .ref m18, .ref m19])), (m5, .inl (km5, 30, .inl mus)), (m6, .inl (km6, 30, .inl mss)), (m7, .inl (km7, 270, .inl (upd bx ((9 * im) + k).toNatClampNeg (vp_nar .byte ((((48 + (lf - lf / 10 * 10)) + ((64 : Int32).toInt64)).toInt32).toInt8.toInt32)))))] := hD
                obtain ⟨g_5, e_g_5⟩ : ∃ y, y = upd bx ((9 * im) + k).toNatClampNeg (vp_nar .byte ((((48 + (lf - lf / 10 * 10)) + ((64 : Int32).toInt64)).toInt32).toInt8.toInt32)) := ⟨_, rfl⟩
                rw [← e_g_5] at hP hD
                refine lv_lload hx hb dX5_become_191 (lv_at hl 2 rfl) ?_
                refine lv_ldc2 (v := 10) hx hb hown (hts (.constantLong RX5 101 10) (by decide +kernel)) dX5_become_193 ?_
                refine lv_ldiv hx hb dX5_become_196 (by decide) ?_
                refine lv_lstore (lv' := [(4, .long (lf / 10)), (0, .ref m0), (1, .int im), (8, .long lw), (10, .int k)]) hx hb dX5_become_197 hl (by decide) rfl (fun ls hl => ?_)
                obtain ⟨i_6, e_i_6⟩ : ∃ y : Int32, y = k + (-1) := ⟨_, rfl⟩
                refine lv_iinc (v := i_6) (lv' := [(10, .int i_6), (4, .long (lf / 10)), (0, .ref m0), (1, .int im), (8, .long lw)]) hx hb dX5_become_199 hl (k := 4) rfl (by rw [e_i_6]; rfl) (by decide) rfl (fun ls hl => ?_)
                refine lv_goto (tgt := 134) hx hb dX5_become_202 (by decide) ?_
                exact ih (lf / 10) i_6 g_5 _ _ _ ⟨lv_sub hl [2, 3, 1, 4, 0] rfl, hP, hD, hS, fun h => by rw [e_g_5]; exact fitB_upd (hfx h) _ _, by rw [e_i_6, i_m1 h0k]; omega⟩ (by rw [e_i_6, i_m1 h0k]; omega)
        · refine lv_lconst (v := 0) hx hb dX5_become_113 (by decide) ?_
          refine lv_lload hx hb dX5_become_114 (lv_at hl 0 rfl) ?_
          refine lv_lsub hx hb dX5_become_116 ?_
          refine lv_goto (tgt := 122) hx hb dX5_become_117 (by decide) ?_
          refine lv_lstore (lv' := [(4, .long (0 - lw)), (8, .long lw), (0, .ref m0), (1, .int im), (2, .long v), (6, .long te)]) hx hb dX5_become_122 hl (by decide) rfl (fun ls hl => ?_)
          refine lv_aload_n hx hb dX5_become_124 rfl (lv_at hl 2 rfl) ?_
          refine va_get (D := (dC, dI)) (ci := 6) (v := .ref m6) (C := RX5) (T := TX5) (N := 27) hx hb hts (by decide +kernel) hown hK hP 0 rfl rfl 13 (by decide) (hts (.fieldLink RX5 26 "CobolDebuggerModel" "sizes" "[I") (by decide +kernel)) (fun _ h9 => h9) rfl dX5_become_125 ?_
          refine lv_iload_n hx hb dX5_become_128 rfl (lv_at hl 3 rfl) ?_
          refine va_iald hx hb hK hP 2 1 rfl rfl (i := im) him dX5_become_129 ?_
          refine lv_iconst (v := 1) hx hb dX5_become_130 (by decide) ?_
          refine lv_isub hx hb dX5_become_131 ?_
          refine lv_istore (lv' := [(10, .int ((mss im.toNatClampNeg) - 1)), (4, .long (0 - lw)), (8, .long lw), (0, .ref m0), (1, .int im), (2, .long v), (6, .long te)]) hx hb dX5_become_132 hl (by decide) rfl (fun ls hl => ?_)
          refine wl3 (μ := fun (lf : Int64) (k : Int32) (bx : Nat → Int32) => (k.toInt + 1).toNat) (I := fun (lf : Int64) (k : Int32) (bx : Nat → Int32) (ls : Array Slot) (H : Heap) (locs : List Loc) => lv_has ls 11 [(0, .ref m0), (1, .int im), (4, .long lf), (8, .long lw), (10, .int k)] ∧ va_P (dC, dI) vwCl [(m0, .inr (6, [.int ce, .int ms, .int mi, .int mt, .int ma, .int mf, .int mk, .int mp, .ref m1, .ref m2, .ref m3, .ref m4, .ref m5, .ref m6, .ref m7, .ref m8, .ref m9, .ref m10, .ref m11, .ref m12, .ref m13, .ref m14, .ref m15, .ref m16, .ref m17, .ref m18, .ref m19])), (m5, .inl (km5, 30, .inl mus)), (m6, .inl (km6, 30, .inl mss)), (m7, .inl (km7, 270, .inl bx))] H ∧ va_D A [(m0, .inr (6, [.int ce, .int ms, .int mi, .int mt, .int ma, .int mf, .int mk, .int mp, .ref m1, .ref m2, .ref m3, .ref m4, .ref m5, .ref m6, .ref m7, .ref m8, .ref m9, .ref m10, .ref m11, .ref m12, .ref m13, .ref m14, .ref m15, .ref m16, .ref m17, .ref m18, .ref m19])), (m5, .inl (km5, 30, .inl mus)), (m6, .inl (km6, 30, .inl mss)), (m7, .inl (km7, 270, .inl bx))] ∧ va_S A s.heap H locs ∧ (fitB mbs → fitB bx) ∧ (k.toInt < 9)) (fun lf k bx ls H locs hI ih => ?_) (0 - lw) ((mss im.toNatClampNeg) - 1) mbs ls _ _ ⟨lv_sub hl [3, 4, 1, 2, 0] rfl, hP, hD, hS, id, by rw [i_s1 (by omega)]; omega⟩
          obtain ⟨hl, hP, hD, hS, hfx, hk9⟩ := hI
          refine lv_iload hx hb dX5_become_134 (lv_at hl 4 rfl) ?_
          refine lv_if_lt (tgt := 205) hx hb dX5_become_136 (by decide) (fun c_136 => ?_) (fun c_136 => ?_)
          · exact W.vret hx hb hr (fun t ht hW => ⟨⟨bx, rfl, hfx, by rw [ht]; exact hP, hD⟩, hS.F ht⟩) hS.2.2 dX5_become_205
          · have h0k := i_n0 c_136
            refine lv_aload_n hx hb dX5_become_139 rfl (lv_at hl 0 rfl) ?_
            refine va_get (D := (dC, dI)) (ci := 6) (v := .ref m7) (C := RX5) (T := TX5) (N := 27) hx hb hts (by decide +kernel) hown hK hP 0 rfl rfl 14 (by decide) (hts (.fieldLink RX5 29 "CobolDebuggerModel" "bytes" "[B") (by decide +kernel)) (fun _ h9 => h9) rfl dX5_become_140 ?_
            refine lv_bipush (v := 9) hx hb dX5_become_143 (by decide) ?_
            refine lv_iload_n hx hb dX5_become_145 rfl (lv_at hl 1 rfl) ?_
            refine lv_imul hx hb dX5_become_146 ?_
            refine lv_iload hx hb dX5_become_147 (lv_at hl 4 rfl) ?_
            refine lv_iadd hx hb dX5_become_149 ?_
            refine lv_ldc2 (v := 48) hx hb hown (hts (.constantLong RX5 103 48) (by decide +kernel)) dX5_become_150 ?_
            refine lv_lload hx hb dX5_become_153 (lv_at hl 2 rfl) ?_
            refine lv_ldc2 (v := 10) hx hb hown (hts (.constantLong RX5 101 10) (by decide +kernel)) dX5_become_155 ?_
            refine lv_lrem hx hb dX5_become_158 (by decide) ?_
            refine lv_ladd hx hb dX5_become_159 ?_
            refine lv_iload hx hb dX5_become_160 (lv_at hl 4 rfl) ?_
            refine lv_aload_n hx hb dX5_become_162 rfl (lv_at hl 0 rfl) ?_
            refine va_get (D := (dC, dI)) (ci := 6) (v := .ref m6) (C := RX5) (T := TX5) (N := 27) hx hb hts (by decide +kernel) hown hK hP 0 rfl rfl 13 (by decide) (hts (.fieldLink RX5 26 "CobolDebuggerModel" "sizes" "[I") (by decide +kernel)) (fun _ h9 => h9) rfl dX5_become_163 ?_
            refine lv_iload_n hx hb dX5_become_166 rfl (lv_at hl 1 rfl) ?_
            refine va_iald hx hb hK hP 2 1 rfl rfl (i := im) him dX5_become_167 ?_
            refine lv_iconst (v := 1) hx hb dX5_become_168 (by decide) ?_
            refine lv_isub hx hb dX5_become_169 ?_
            refine lv_icmp_ne (tgt := 185) hx hb dX5_become_170 (by decide) (fun c_170 => ?_) (fun c_170 => ?_)
            · refine lv_iconst (v := 0) hx hb dX5_become_185 (by decide) ?_
              refine lv_i2l hx hb dX5_become_186 rfl ?_
              refine lv_ladd hx hb dX5_become_187 ?_
              refine lv_l2i hx hb dX5_become_188 rfl ?_
              refine lv_i2b hx hb dX5_become_189 rfl ?_
              refine va_bast hx hb hK hP hD hS 3 2 rfl rfl (i := (9 * im) + k) (ix_9m him h0k hk9) dX5_become_190 (fun H locs hP hD hS => ?_)
              have hP : va_P (dC, dI) vwCl [(m0, .inr (6, [.int ce, .int ms, .int mi, .int mt, .int ma, .int mf, .int mk, .int mp, .ref m1, .ref m2, .ref m3, .ref m4, .ref m5, .ref m6, .ref m7, .ref m8, .ref m9, .ref m10, .ref m11, .ref m12, .ref m13, .ref m14, .ref m15, .ref m16, .ref m17, .ref m18, .ref m19])), (m5, .inl (km5, 30, .inl mus)), (m6, .inl (km6, 30, .inl mss)), (m7, .inl (km7, 270, .inl (upd bx ((9 * im) + k).toNatClampNeg (vp_nar .byte ((((48 + (lf - lf / 10 * 10)) + ((0 : Int32).toInt64)).toInt32).toInt8.toInt32)))))] H := hP
              have hD : va_D A [(m0, .inr (6, [.int ce, .int ms, .int mi, .int mt, .int ma, .int mf, .int mk, .int mp, .ref m1, .ref m2, .ref m3, .ref m4, .ref m5, .ref m6, .ref m7, .ref m8, .ref m9, .ref m10, .ref m11, .ref m12, .ref m13, .ref m14, .ref m15, .ref m16, .ref m17, .ref m18, .ref m19])), (m5, .inl (km5, 30, .inl mus)), (m6, .inl (km6, 30, .inl mss)), (m7, .inl (km7, 270, .inl (upd bx ((9 * im) + k).toNatClampNeg (vp_nar .byte ((((48 + (lf - lf / 10 * 10)) + ((0 : Int32).toInt64)).toInt32).toInt8.toInt32)))))] := hD
              obtain ⟨g_7, e_g_7⟩ : ∃ y, y = upd bx ((9 * im) + k).toNatClampNeg (vp_nar .byte ((((48 + (lf - lf / 10 * 10)) + ((0 : Int32).toInt64)).toInt32).toInt8.toInt32)) := ⟨_, rfl⟩
              rw [← e_g_7] at hP hD
              refine lv_lload hx hb dX5_become_191 (lv_at hl 2 rfl) ?_
              refine lv_ldc2 (v := 10) hx hb hown (hts (.constantLong RX5 101 10) (by decide +kernel)) dX5_become_193 ?_
              refine lv_ldiv hx hb dX5_become_196 (by decide) ?_
              refine lv_lstore (lv' := [(4, .long (lf / 10)), (0, .ref m0), (1, .int im), (8, .long lw), (10, .int k)]) hx hb dX5_become_197 hl (by decide) rfl (fun ls hl => ?_)
              obtain ⟨i_8, e_i_8⟩ : ∃ y : Int32, y = k + (-1) := ⟨_, rfl⟩
              refine lv_iinc (v := i_8) (lv' := [(10, .int i_8), (4, .long (lf / 10)), (0, .ref m0), (1, .int im), (8, .long lw)]) hx hb dX5_become_199 hl (k := 4) rfl (by rw [e_i_8]; rfl) (by decide) rfl (fun ls hl => ?_)
              refine lv_goto (tgt := 134) hx hb dX5_become_202 (by decide) ?_
              exact ih (lf / 10) i_8 g_7 _ _ _ ⟨lv_sub hl [2, 3, 1, 4, 0] rfl, hP, hD, hS, fun h => by rw [e_g_7]; exact fitB_upd (hfx h) _ _, by rw [e_i_8, i_m1 h0k]; omega⟩ (by rw [e_i_8, i_m1 h0k]; omega)
            · refine lv_lload hx hb dX5_become_173 (lv_at hl 3 rfl) ?_
              refine lv_lconst (v := 0) hx hb dX5_become_175 (by decide) ?_
              refine W.lcmp hx hb dX5_become_176 ?_
              refine lv_if_ge (tgt := 185) hx hb dX5_become_177 (by decide) (fun c_177 => ?_) (fun c_177 => ?_)
              · refine lv_iconst (v := 0) hx hb dX5_become_185 (by decide) ?_
                refine lv_i2l hx hb dX5_become_186 rfl ?_
                refine lv_ladd hx hb dX5_become_187 ?_
                refine lv_l2i hx hb dX5_become_188 rfl ?_
                refine lv_i2b hx hb dX5_become_189 rfl ?_
                refine va_bast hx hb hK hP hD hS 3 2 rfl rfl (i := (9 * im) + k) (ix_9m him h0k hk9) dX5_become_190 (fun H locs hP hD hS => ?_)
                have hP : va_P (dC, dI) vwCl [(m0, .inr (6, [.int ce, .int ms, .int mi, .int mt, .int ma, .int mf, .int mk, .int mp, .ref m1, .ref m2, .ref m3, .ref m4, .ref m5, .ref m6, .ref m7, .ref m8, .ref m9, .ref m10, .ref m11, .ref m12, .ref m13, .ref m14, .ref m15, .ref m16, .ref m17, .ref m18, .ref m19])), (m5, .inl (km5, 30, .inl mus)), (m6, .inl (km6, 30, .inl mss)), (m7, .inl (km7, 270, .inl (upd bx ((9 * im) + k).toNatClampNeg (vp_nar .byte ((((48 + (lf - lf / 10 * 10)) + ((0 : Int32).toInt64)).toInt32).toInt8.toInt32)))))] H := hP
                have hD : va_D A [(m0, .inr (6, [.int ce, .int ms, .int mi, .int mt, .int ma, .int mf, .int mk, .int mp, .ref m1, .ref m2, .ref m3, .ref m4, .ref m5, .ref m6, .ref m7, .ref m8, .ref m9, .ref m10, .ref m11, .ref m12, .ref m13, .ref m14, .ref m15, .ref m16, .ref m17, .ref m18, .ref m19])), (m5, .inl (km5, 30, .inl mus)), (m6, .inl (km6, 30, .inl mss)), (m7, .inl (km7, 270, .inl (upd bx ((9 * im) + k).toNatClampNeg (vp_nar .byte ((((48 + (lf - lf / 10 * 10)) + ((0 : Int32).toInt64)).toInt32).toInt8.toInt32)))))] := hD
                obtain ⟨g_9, e_g_9⟩ : ∃ y, y = upd bx ((9 * im) + k).toNatClampNeg (vp_nar .byte ((((48 + (lf - lf / 10 * 10)) + ((0 : Int32).toInt64)).toInt32).toInt8.toInt32)) := ⟨_, rfl⟩
                rw [← e_g_9] at hP hD
                refine lv_lload hx hb dX5_become_191 (lv_at hl 2 rfl) ?_
                refine lv_ldc2 (v := 10) hx hb hown (hts (.constantLong RX5 101 10) (by decide +kernel)) dX5_become_193 ?_
                refine lv_ldiv hx hb dX5_become_196 (by decide) ?_
                refine lv_lstore (lv' := [(4, .long (lf / 10)), (0, .ref m0), (1, .int im), (8, .long lw), (10, .int k)]) hx hb dX5_become_197 hl (by decide) rfl (fun ls hl => ?_)
                obtain ⟨i_10, e_i_10⟩ : ∃ y : Int32, y = k + (-1) := ⟨_, rfl⟩
                refine lv_iinc (v := i_10) (lv' := [(10, .int i_10), (4, .long (lf / 10)), (0, .ref m0), (1, .int im), (8, .long lw)]) hx hb dX5_become_199 hl (k := 4) rfl (by rw [e_i_10]; rfl) (by decide) rfl (fun ls hl => ?_)
                refine lv_goto (tgt := 134) hx hb dX5_become_202 (by decide) ?_
                exact ih (lf / 10) i_10 g_9 _ _ _ ⟨lv_sub hl [2, 3, 1, 4, 0] rfl, hP, hD, hS, fun h => by rw [e_g_9]; exact fitB_upd (hfx h) _ _, by rw [e_i_10, i_m1 h0k]; omega⟩ (by rw [e_i_10, i_m1 h0k]; omega)
              · refine lv_bipush (v := 64) hx hb dX5_become_180 (by decide) ?_
                refine lv_goto (tgt := 186) hx hb dX5_become_182 (by decide) ?_
                refine lv_i2l hx hb dX5_become_186 rfl ?_
                refine lv_ladd hx hb dX5_become_187 ?_
                refine lv_l2i hx hb dX5_become_188 rfl ?_
                refine lv_i2b hx hb dX5_become_189 rfl ?_
                refine va_bast hx hb hK hP hD hS 3 2 rfl rfl (i := (9 * im) + k) (ix_9m him h0k hk9) dX5_become_190 (fun H locs hP hD hS => ?_)
                have hP : va_P (dC, dI) vwCl [(m0, .inr (6, [.int ce, .int ms, .int mi, .int mt, .int ma, .int mf, .int mk, .int mp, .ref m1, .ref m2, .ref m3, .ref m4, .ref m5, .ref m6, .ref m7, .ref m8, .ref m9, .ref m10, .ref m11, .ref m12, .ref m13, .ref m14, .ref m15, .ref m16, .ref m17, .ref m18, .ref m19])), (m5, .inl (km5, 30, .inl mus)), (m6, .inl (km6, 30, .inl mss)), (m7, .inl (km7, 270, .inl (upd bx ((9 * im) + k).toNatClampNeg (vp_nar .byte ((((48 + (lf - lf / 10 * 10)) + ((64 : Int32).toInt64)).toInt32).toInt8.toInt32)))))] H := hP
                have hD : va_D A [(m0, .inr (6, [.int ce, .int ms, .int mi, .int mt, .int ma, .int mf, .int mk, .int mp, .ref m1, .ref m2, .ref m3, .ref m4, .ref m5, .ref m6, .ref m7, .ref m8, .ref m9, .ref m10, .ref m11, .ref m12, .ref m13, .ref m14, .ref m15, .ref m16, .ref m17, .ref m18, .ref m19])), (m5, .inl (km5, 30, .inl mus)), (m6, .inl (km6, 30, .inl mss)), (m7, .inl (km7, 270, .inl (upd bx ((9 * im) + k).toNatClampNeg (vp_nar .byte ((((48 + (lf - lf / 10 * 10)) + ((64 : Int32).toInt64)).toInt32).toInt8.toInt32)))))] := hD
                obtain ⟨g_11, e_g_11⟩ : ∃ y, y = upd bx ((9 * im) + k).toNatClampNeg (vp_nar .byte ((((48 + (lf - lf / 10 * 10)) + ((64 : Int32).toInt64)).toInt32).toInt8.toInt32)) := ⟨_, rfl⟩
                rw [← e_g_11] at hP hD
                refine lv_lload hx hb dX5_become_191 (lv_at hl 2 rfl) ?_
                refine lv_ldc2 (v := 10) hx hb hown (hts (.constantLong RX5 101 10) (by decide +kernel)) dX5_become_193 ?_
                refine lv_ldiv hx hb dX5_become_196 (by decide) ?_
                refine lv_lstore (lv' := [(4, .long (lf / 10)), (0, .ref m0), (1, .int im), (8, .long lw), (10, .int k)]) hx hb dX5_become_197 hl (by decide) rfl (fun ls hl => ?_)
                obtain ⟨i_12, e_i_12⟩ : ∃ y : Int32, y = k + (-1) := ⟨_, rfl⟩
                refine lv_iinc (v := i_12) (lv' := [(10, .int i_12), (4, .long (lf / 10)), (0, .ref m0), (1, .int im), (8, .long lw)]) hx hb dX5_become_199 hl (k := 4) rfl (by rw [e_i_12]; rfl) (by decide) rfl (fun ls hl => ?_)
                refine lv_goto (tgt := 134) hx hb dX5_become_202 (by decide) ?_
                exact ih (lf / 10) i_12 g_11 _ _ _ ⟨lv_sub hl [2, 3, 1, 4, 0] rfl, hP, hD, hS, fun h => by rw [e_g_11]; exact fitB_upd (hfx h) _ _, by rw [e_i_12, i_m1 h0k]; omega⟩ (by rw [e_i_12, i_m1 h0k]; omega)
      · have hk9 := n_lt c_83
        refine lv_lload hx hb dX5_become_86 (lv_at hl 3 rfl) ?_
        refine lv_ldc2 (v := 10) hx hb hown (hts (.constantLong RX5 101 10) (by decide +kernel)) dX5_become_88 ?_
        refine lv_lmul hx hb dX5_become_91 ?_
        refine lv_lstore (lv' := [(6, .long (te * 10)), (0, .ref m0), (1, .int im), (2, .long v), (8, .int i)]) hx hb dX5_become_92 hl (by decide) rfl (fun ls hl => ?_)
        obtain ⟨i_13, e_i_13⟩ : ∃ y : Int32, y = i + 1 := ⟨_, rfl⟩
        refine lv_iinc (v := i_13) (lv' := [(8, .int i_13), (6, .long (te * 10)), (0, .ref m0), (1, .int im), (2, .long v)]) hx hb dX5_become_94 hl (k := 4) rfl (by rw [e_i_13]; rfl) (by decide) rfl (fun ls hl => ?_)
        refine lv_goto (tgt := 75) hx hb dX5_become_97 (by decide) ?_
        exact ih (te * 10) i_13 (k + 1) _ _ _ ⟨lv_sub hl [2, 3, 4, 1, 0] rfl, hP, hD, hS, by rw [et]; exact tn_10 (by omega), by rw [e_i_13, i_p1 (by omega) (by omega), ei]; omega, by omega⟩ (by omega)
    · refine lv_aload_n hx hb dX5_become_24 rfl (lv_at hl 1 rfl) ?_
      refine va_get (D := (dC, dI)) (ci := 6) (v := .ref m6) (C := RX5) (T := TX5) (N := 27) hx hb hts (by decide +kernel) hown hK hP 0 rfl rfl 13 (by decide) (hts (.fieldLink RX5 26 "CobolDebuggerModel" "sizes" "[I") (by decide +kernel)) (fun _ h9 => h9) rfl dX5_become_25 ?_
      refine lv_iload_n hx hb dX5_become_28 rfl (lv_at hl 2 rfl) ?_
      refine va_iald hx hb hK hP 2 1 rfl rfl (i := im) him dX5_become_29 ?_
      refine lv_iconst (v := 1) hx hb dX5_become_30 (by decide) ?_
      refine lv_isub hx hb dX5_become_31 ?_
      refine lv_istore (lv' := [(6, .int ((mss im.toNatClampNeg) - 1)), (4, .long v), (0, .ref m0), (1, .int im), (2, .long v)]) hx hb dX5_become_32 hl (by decide) rfl (fun ls hl => ?_)
      refine wl3 (μ := fun (lf : Int64) (k : Int32) (bx : Nat → Int32) => (k.toInt + 1).toNat) (I := fun (lf : Int64) (k : Int32) (bx : Nat → Int32) (ls : Array Slot) (H : Heap) (locs : List Loc) => lv_has ls 11 [(0, .ref m0), (1, .int im), (4, .long lf), (6, .int k)] ∧ va_P (dC, dI) vwCl [(m0, .inr (6, [.int ce, .int ms, .int mi, .int mt, .int ma, .int mf, .int mk, .int mp, .ref m1, .ref m2, .ref m3, .ref m4, .ref m5, .ref m6, .ref m7, .ref m8, .ref m9, .ref m10, .ref m11, .ref m12, .ref m13, .ref m14, .ref m15, .ref m16, .ref m17, .ref m18, .ref m19])), (m5, .inl (km5, 30, .inl mus)), (m6, .inl (km6, 30, .inl mss)), (m7, .inl (km7, 270, .inl bx))] H ∧ va_D A [(m0, .inr (6, [.int ce, .int ms, .int mi, .int mt, .int ma, .int mf, .int mk, .int mp, .ref m1, .ref m2, .ref m3, .ref m4, .ref m5, .ref m6, .ref m7, .ref m8, .ref m9, .ref m10, .ref m11, .ref m12, .ref m13, .ref m14, .ref m15, .ref m16, .ref m17, .ref m18, .ref m19])), (m5, .inl (km5, 30, .inl mus)), (m6, .inl (km6, 30, .inl mss)), (m7, .inl (km7, 270, .inl bx))] ∧ va_S A s.heap H locs ∧ (fitB mbs → fitB bx) ∧ (k.toInt < 9)) (fun lf k bx ls H locs hI ih => ?_) v ((mss im.toNatClampNeg) - 1) mbs ls _ _ ⟨lv_sub hl [2, 3, 1, 0] rfl, hP, hD, hS, id, by rw [i_s1 (by omega)]; omega⟩
      obtain ⟨hl, hP, hD, hS, hfx, hk9⟩ := hI
      refine lv_iload hx hb dX5_become_34 (lv_at hl 3 rfl) ?_
      refine lv_if_lt (tgt := 68) hx hb dX5_become_36 (by decide) (fun c_36 => ?_) (fun c_36 => ?_)
      · exact W.vret hx hb hr (fun t ht hW => ⟨⟨bx, rfl, hfx, by rw [ht]; exact hP, hD⟩, hS.F ht⟩) hS.2.2 dX5_become_68
      · have h0k := i_n0 c_36
        refine lv_aload_n hx hb dX5_become_39 rfl (lv_at hl 0 rfl) ?_
        refine va_get (D := (dC, dI)) (ci := 6) (v := .ref m7) (C := RX5) (T := TX5) (N := 27) hx hb hts (by decide +kernel) hown hK hP 0 rfl rfl 14 (by decide) (hts (.fieldLink RX5 29 "CobolDebuggerModel" "bytes" "[B") (by decide +kernel)) (fun _ h9 => h9) rfl dX5_become_40 ?_
        refine lv_bipush (v := 9) hx hb dX5_become_43 (by decide) ?_
        refine lv_iload_n hx hb dX5_become_45 rfl (lv_at hl 1 rfl) ?_
        refine lv_imul hx hb dX5_become_46 ?_
        refine lv_iload hx hb dX5_become_47 (lv_at hl 3 rfl) ?_
        refine lv_iadd hx hb dX5_become_49 ?_
        refine lv_lload hx hb dX5_become_50 (lv_at hl 2 rfl) ?_
        refine lv_l2i hx hb dX5_become_52 rfl ?_
        refine lv_i2b hx hb dX5_become_53 rfl ?_
        refine va_bast hx hb hK hP hD hS 3 2 rfl rfl (i := (9 * im) + k) (ix_9m him h0k hk9) dX5_become_54 (fun H locs hP hD hS => ?_)
        have hP : va_P (dC, dI) vwCl [(m0, .inr (6, [.int ce, .int ms, .int mi, .int mt, .int ma, .int mf, .int mk, .int mp, .ref m1, .ref m2, .ref m3, .ref m4, .ref m5, .ref m6, .ref m7, .ref m8, .ref m9, .ref m10, .ref m11, .ref m12, .ref m13, .ref m14, .ref m15, .ref m16, .ref m17, .ref m18, .ref m19])), (m5, .inl (km5, 30, .inl mus)), (m6, .inl (km6, 30, .inl mss)), (m7, .inl (km7, 270, .inl (upd bx ((9 * im) + k).toNatClampNeg (vp_nar .byte lf.toInt32.toInt8.toInt32))))] H := hP
        have hD : va_D A [(m0, .inr (6, [.int ce, .int ms, .int mi, .int mt, .int ma, .int mf, .int mk, .int mp, .ref m1, .ref m2, .ref m3, .ref m4, .ref m5, .ref m6, .ref m7, .ref m8, .ref m9, .ref m10, .ref m11, .ref m12, .ref m13, .ref m14, .ref m15, .ref m16, .ref m17, .ref m18, .ref m19])), (m5, .inl (km5, 30, .inl mus)), (m6, .inl (km6, 30, .inl mss)), (m7, .inl (km7, 270, .inl (upd bx ((9 * im) + k).toNatClampNeg (vp_nar .byte lf.toInt32.toInt8.toInt32))))] := hD
        obtain ⟨g_14, e_g_14⟩ : ∃ y, y = upd bx ((9 * im) + k).toNatClampNeg (vp_nar .byte lf.toInt32.toInt8.toInt32) := ⟨_, rfl⟩
        rw [← e_g_14] at hP hD
        refine lv_lload hx hb dX5_become_55 (lv_at hl 2 rfl) ?_
        refine lv_bipush (v := 8) hx hb dX5_become_57 (by decide) ?_
        refine lv_lshr hx hb dX5_become_59 rfl ?_
        refine lv_lstore (lv' := [(4, .long (lf >>> ((8 : Int32).toInt64 &&& 63))), (0, .ref m0), (1, .int im), (6, .int k)]) hx hb dX5_become_60 hl (by decide) rfl (fun ls hl => ?_)
        obtain ⟨i_15, e_i_15⟩ : ∃ y : Int32, y = k + (-1) := ⟨_, rfl⟩
        refine lv_iinc (v := i_15) (lv' := [(6, .int i_15), (4, .long (lf >>> ((8 : Int32).toInt64 &&& 63))), (0, .ref m0), (1, .int im)]) hx hb dX5_become_62 hl (k := 3) rfl (by rw [e_i_15]; rfl) (by decide) rfl (fun ls hl => ?_)
        refine lv_goto (tgt := 34) hx hb dX5_become_65 (by decide) ?_
        exact ih (lf >>> ((8 : Int32).toInt64 &&& 63)) i_15 g_14 _ _ _ ⟨lv_sub hl [2, 3, 1, 0] rfl, hP, hD, hS, fun h => by rw [e_g_14]; exact fitB_upd (hfx h) _ _, by rw [e_i_15, i_m1 h0k]; omega⟩ (by rw [e_i_15, i_m1 h0k]; omega)
  · exact W.vret hx hb hr (fun t ht hW => ⟨⟨mbs, rfl, id, by rw [ht]; exact hP, hD⟩, hS.F ht⟩) hS.2.2 dX5_become_10

set_option maxHeartbeats 4000000 in
set_option maxRecDepth 100000 in
theorem c_X5_firstOf (l : Launch) (dC : Nat → ClassId) (dI : Nat → Nat → Nat) (m0 m1 m2 m3 m4 m5 m6 m7 m8 m9 m10 m11 m12 m13 m14 m15 m16 m17 m18 m19 : Nat) (km1 : ClassId) (mpg : Nat → Int32) (ce ms mi mt ma mf mk mp : Int32) (pa : Int32) (hs0 : 0 ≤ ms.toInt) (hs1 : ms.toInt ≤ 100) : Met l yX5_firstOf wsX5_firstOf ({ frames := 0, cells := 0, slots := 0, locals := 0 }) (va_Pc [.ref m0, .int pa] (fun U => va_P (dC, dI) vwCl [(m0, .inr (6, [.int ce, .int ms, .int mi, .int mt, .int ma, .int mf, .int mk, .int mp, .ref m1, .ref m2, .ref m3, .ref m4, .ref m5, .ref m6, .ref m7, .ref m8, .ref m9, .ref m10, .ref m11, .ref m12, .ref m13, .ref m14, .ref m15, .ref m16, .ref m17, .ref m18, .ref m19])), (m1, .inl (km1, 102, .inl mpg))] U.heap ∧ va_K (dC, dI) vwCl [(km1, .int)] U)) (va_Qi (fun (r : Int32) (_ : Unit) => 0 ≤ r.toInt ∧ r.toInt ≤ ms.toInt) (fun _ _ => True) (fun _ => False)) 0 0 (fun _ => False) := by
  refine Met.ofW (cc := cX5_firstOf) (maxL := 4) (ret := (some .int)) (by decide) rfl ?_
  intro p e s m args below meth c s₁ B hml hv
  obtain ⟨rfl, hP, hK⟩ := hv
  have hx := B.exec
  have hb := B.bytes
  have hr := B.returns
  have hts := atoms_spec (ws := wsX5_firstOf) B.pre
  have hown : s.vm.findClass RX5 = some m.cls := findClass_of_methodNamed B.named
  have hlocks := B.notSynchronized
  have hS : va_S (fun _ => False) s.heap s.heap [] := va_S.rf
  have hl := lv_entry ([.ref m0, .int pa]) (n := 4) (Nat.le_of_ble_eq_true rfl)
  rw [lg_entry_eq]
  generalize (lg_sl ([.ref m0, .int pa]) ++ List.replicate (4 - (lg_sl ([.ref m0, .int pa])).length) Slot.unset).toArray = ls at hl ⊢
  have hl : lv_has ls 4 [(0, .ref m0), (1, .int pa)] := hl
  refine lv_iconst (v := 0) hx hb dX5_firstOf_0 (by decide) ?_
  refine lv_istore_n (lv' := [(2, .int 0), (0, .ref m0), (1, .int pa)]) hx hb dX5_firstOf_1 rfl hl (by decide) rfl (fun ls hl => ?_)
  refine lv_aload_n hx hb dX5_firstOf_2 rfl (lv_at hl 1 rfl) ?_
  refine va_get (D := (dC, dI)) (ci := 6) (v := .int ms) (C := RX5) (T := TX5) (N := 27) hx hb hts (by decide +kernel) hown hK hP 0 rfl rfl 1 (by decide) (hts (.fieldLink RX5 73 "CobolDebuggerModel" "statements" "I") (by decide +kernel)) (fun _ h9 => h9) rfl dX5_firstOf_3 ?_
  refine lv_istore_n (lv' := [(3, .int ms), (2, .int 0), (0, .ref m0), (1, .int pa)]) hx hb dX5_firstOf_6 rfl hl (by decide) rfl (fun ls hl => ?_)
  refine wl2 (μ := fun (fd : Int32) (sx : Int32) => sx.toInt.toNat) (I := fun (fd : Int32) (sx : Int32) (ls : Array Slot) (H : Heap) (locs : List Loc) => lv_has ls 4 [(0, .ref m0), (1, .int pa), (2, .int fd), (3, .int sx)] ∧ va_P (dC, dI) vwCl [(m0, .inr (6, [.int ce, .int ms, .int mi, .int mt, .int ma, .int mf, .int mk, .int mp, .ref m1, .ref m2, .ref m3, .ref m4, .ref m5, .ref m6, .ref m7, .ref m8, .ref m9, .ref m10, .ref m11, .ref m12, .ref m13, .ref m14, .ref m15, .ref m16, .ref m17, .ref m18, .ref m19])), (m1, .inl (km1, 102, .inl mpg))] H ∧ va_S (fun _ => False) s.heap H locs ∧ (0 ≤ fd.toInt) ∧ (fd.toInt ≤ ms.toInt) ∧ (sx.toInt ≤ ms.toInt)) (fun fd sx ls H locs hI ih => ?_) 0 ms ls _ _ ⟨lv_sub hl [2, 3, 1, 0] rfl, hP, hS, by decide, by rw [Int32.toInt_zero]; exact hs0, Int.le_refl _⟩
  obtain ⟨hl, hP, hS, hf0, hf1, hsx⟩ := hI
  refine lv_iload_n hx hb dX5_firstOf_7 rfl (lv_at hl 3 rfl) ?_
  refine lv_if_le (tgt := 33) hx hb dX5_firstOf_8 (by decide) (fun c_8 => ?_) (fun c_8 => ?_)
  · refine lv_iload_n hx hb dX5_firstOf_33 rfl (lv_at hl 2 rfl) ?_
    exact W.iret (v := fd) hx hb hr (fun t ht hW => ⟨⟨fd, (), rfl, ⟨hf0, hf1⟩, trivial⟩, hS.F ht⟩) hS.2.2 dX5_firstOf_34
  · have hsp := pos_n c_8
    refine lv_aload_n hx hb dX5_firstOf_11 rfl (lv_at hl 0 rfl) ?_
    refine va_get (D := (dC, dI)) (ci := 6) (v := .ref m1) (C := RX5) (T := TX5) (N := 27) hx hb hts (by decide +kernel) hown hK hP 0 rfl rfl 8 (by decide) (hts (.fieldLink RX5 7 "CobolDebuggerModel" "paragraphs" "[I") (by decide +kernel)) (fun _ h9 => h9) rfl dX5_firstOf_12 ?_
    refine lv_iload_n hx hb dX5_firstOf_15 rfl (lv_at hl 3 rfl) ?_
    refine va_iald hx hb hK hP 1 0 rfl rfl (i := sx) (ix_r (by omega) (by omega)) dX5_firstOf_16 ?_
    refine lv_iload_n hx hb dX5_firstOf_17 rfl (lv_at hl 1 rfl) ?_
    refine lv_icmp_ne (tgt := 25) hx hb dX5_firstOf_18 (by decide) (fun c_18 => ?_) (fun c_18 => ?_)
    · refine lv_iload_n hx hb dX5_firstOf_25 rfl (lv_at hl 2 rfl) ?_
      refine lv_istore_n (lv' := [(2, .int fd), (0, .ref m0), (1, .int pa), (3, .int sx)]) hx hb dX5_firstOf_26 rfl hl (by decide) rfl (fun ls hl => ?_)
      obtain ⟨i_1, e_i_1⟩ : ∃ y : Int32, y = sx + (-1) := ⟨_, rfl⟩
      refine lv_iinc (v := i_1) (lv' := [(3, .int i_1), (2, .int fd), (0, .ref m0), (1, .int pa)]) hx hb dX5_firstOf_27 hl (k := 3) rfl (by rw [e_i_1]; rfl) (by decide) rfl (fun ls hl => ?_)
      refine lv_goto (tgt := 7) hx hb dX5_firstOf_30 (by decide) ?_
      exact ih fd i_1 _ _ _ ⟨lv_sub hl [2, 3, 1, 0] rfl, hP, hS, hf0, hf1, by rw [e_i_1, i_m1 (by omega)]; omega⟩ (by rw [e_i_1, i_m1 (by omega)]; omega)
    · refine lv_iload_n hx hb dX5_firstOf_21 rfl (lv_at hl 3 rfl) ?_
      refine lv_goto (tgt := 26) hx hb dX5_firstOf_22 (by decide) ?_
      refine lv_istore_n (lv' := [(2, .int sx), (0, .ref m0), (1, .int pa), (3, .int sx)]) hx hb dX5_firstOf_26 rfl hl (by decide) rfl (fun ls hl => ?_)
      obtain ⟨i_2, e_i_2⟩ : ∃ y : Int32, y = sx + (-1) := ⟨_, rfl⟩
      refine lv_iinc (v := i_2) (lv' := [(3, .int i_2), (2, .int sx), (0, .ref m0), (1, .int pa)]) hx hb dX5_firstOf_27 hl (k := 3) rfl (by rw [e_i_2]; rfl) (by decide) rfl (fun ls hl => ?_)
      refine lv_goto (tgt := 7) hx hb dX5_firstOf_30 (by decide) ?_
      exact ih sx i_2 _ _ _ ⟨lv_sub hl [2, 3, 1, 0] rfl, hP, hS, by omega, by omega, by rw [e_i_2, i_m1 (by omega)]; omega⟩ (by rw [e_i_2, i_m1 (by omega)]; omega)

set_option maxHeartbeats 4000000 in
set_option maxRecDepth 100000 in
theorem c_X5_lastOf (l : Launch) (dC : Nat → ClassId) (dI : Nat → Nat → Nat) (m0 m1 m2 m3 m4 m5 m6 m7 m8 m9 m10 m11 m12 m13 m14 m15 m16 m17 m18 m19 : Nat) (km1 : ClassId) (mpg : Nat → Int32) (ce ms mi mt ma mf mk mp : Int32) (pa : Int32) (hs0 : 0 ≤ ms.toInt) (hs1 : ms.toInt ≤ 100) : Met l yX5_lastOf wsX5_lastOf ({ frames := 1, cells := 0, slots := 0, locals := 23 }) (va_Pc [.ref m0, .int pa] (fun U => va_P (dC, dI) vwCl [(m0, .inr (6, [.int ce, .int ms, .int mi, .int mt, .int ma, .int mf, .int mk, .int mp, .ref m1, .ref m2, .ref m3, .ref m4, .ref m5, .ref m6, .ref m7, .ref m8, .ref m9, .ref m10, .ref m11, .ref m12, .ref m13, .ref m14, .ref m15, .ref m16, .ref m17, .ref m18, .ref m19])), (m1, .inl (km1, 102, .inl mpg))] U.heap ∧ va_K (dC, dI) vwCl [(km1, .int)] U)) (va_Qi (fun (r : Int32) (_ : Unit) => True) (fun _ _ => True) (fun _ => False)) 0 0 (fun _ => False) := by
  refine Met.ofW (cc := cX5_lastOf) (maxL := 3) (ret := (some .int)) (by decide) rfl ?_
  intro p e s m args below meth c s₁ B hml hv
  obtain ⟨rfl, hP, hK⟩ := hv
  have hx := B.exec
  have hb := B.bytes
  have hr := B.returns
  have hts := atoms_spec (ws := wsX5_lastOf) B.pre
  have hown : s.vm.findClass RX5 = some m.cls := findClass_of_methodNamed B.named
  have hlocks := B.notSynchronized
  have hS : va_S (fun _ => False) s.heap s.heap [] := va_S.rf
  have hl := lv_entry ([.ref m0, .int pa]) (n := 3) (Nat.le_of_ble_eq_true rfl)
  rw [lg_entry_eq]
  generalize (lg_sl ([.ref m0, .int pa]) ++ List.replicate (3 - (lg_sl ([.ref m0, .int pa])).length) Slot.unset).toArray = ls at hl ⊢
  have hl : lv_has ls 3 [(0, .ref m0), (1, .int pa)] := hl
  refine lv_aload_n hx hb dX5_lastOf_0 rfl (lv_at hl 0 rfl) ?_
  refine lv_iload_n hx hb dX5_lastOf_1 rfl (lv_at hl 1 rfl) ?_
  have hPc := hP.sub (ws' := [(m0, .inr (6, [.int ce, .int ms, .int mi, .int mt, .int ma, .int mf, .int mk, .int mp, .ref m1, .ref m2, .ref m3, .ref m4, .ref m5, .ref m6, .ref m7, .ref m8, .ref m9, .ref m10, .ref m11, .ref m12, .ref m13, .ref m14, .ref m15, .ref m16, .ref m17, .ref m18, .ref m19])), (m1, .inl (km1, 102, .inl mpg))]) [0, 1] rfl
  have hKc := hK.sub (tys' := [(km1, .int)]) [0] rfl
  refine va_calli (va_runV (As := [.int pa]) (rest := []) ⟨hx, hb, hml, hown, hts⟩ (c_X5_firstOf l dC dI m0 m1 m2 m3 m4 m5 m6 m7 m8 m9 m10 m11 m12 m13 m14 m15 m16 m17 m18 m19 km1 mpg ce ms mi mt ma mf mk mp pa (hs0) (hs1)) (cwV 1 hts gX5_lastOf_X5_firstOf rfl rfl rfl (by decide +kernel) ⟨Nat.le_of_ble_eq_true rfl, Nat.le_of_ble_eq_true rfl⟩) ⟨fun a U g mk q => by obtain ⟨q0, qP, qK⟩ := q; exact ⟨q0, qP, va_K.moved (u := U) (U := U.calling g mk a) (Vm.Alike.refl U.vm) qK⟩, va_recv hKc hPc (ci := 6) (q0 := 0) rfl rfl, fun U hU hW => ⟨rfl, by rw [hU]; exact hPc, va_K.moved hW.alike hKc⟩⟩ rfl rfl hl.1 rfl (lv_room (Nat.le_of_ble_eq_true rfl)) dX5_lastOf_2 ⟨Nat.zero_le _, Nat.zero_le _⟩) hS (fun q _ h => h.elim) (fun q h => h.elim) (fun r_2 u t H1 locs ht hvm w_2 hB hz1 hk1 hS => ?_)
  try dsimp only at w_2
  have hP := rd_keep hP hk1
  clear hB hk1 hz1 ht hvm u t
  generalize H1 = H at hP hS ⊢
  refine lv_istore_n (lv' := [(2, .int r_2), (0, .ref m0), (1, .int pa)]) hx hb dX5_lastOf_5 rfl hl (by decide) rfl (fun ls hl => ?_)
  refine wl1 (μ := fun (sx : Int32) => (ms.toInt - sx.toInt).toNat) (I := fun (sx : Int32) (ls : Array Slot) (H : Heap) (locs : List Loc) => lv_has ls 3 [(0, .ref m0), (1, .int pa), (2, .int sx)] ∧ va_P (dC, dI) vwCl [(m0, .inr (6, [.int ce, .int ms, .int mi, .int mt, .int ma, .int mf, .int mk, .int mp, .ref m1, .ref m2, .ref m3, .ref m4, .ref m5, .ref m6, .ref m7, .ref m8, .ref m9, .ref m10, .ref m11, .ref m12, .ref m13, .ref m14, .ref m15, .ref m16, .ref m17, .ref m18, .ref m19])), (m1, .inl (km1, 102, .inl mpg))] H ∧ va_S (fun _ => False) s.heap H locs ∧ (0 ≤ sx.toInt)) (fun sx ls H locs hI ih => ?_) r_2 ls _ _ ⟨lv_sub hl [1, 2, 0] rfl, hP, hS, w_2.1⟩
  obtain ⟨hl, hP, hS, hsx⟩ := hI
  refine lv_iload_n hx hb dX5_lastOf_6 rfl (lv_at hl 2 rfl) ?_
  refine lv_if_le (tgt := 36) hx hb dX5_lastOf_7 (by decide) (fun c_7 => ?_) (fun c_7 => ?_)
  · refine lv_iload_n hx hb dX5_lastOf_36 rfl (lv_at hl 2 rfl) ?_
    exact W.iret (v := sx) hx hb hr (fun t ht hW => ⟨⟨sx, (), rfl, trivial, trivial⟩, hS.F ht⟩) hS.2.2 dX5_lastOf_37
  · refine lv_iload_n hx hb dX5_lastOf_10 rfl (lv_at hl 2 rfl) ?_
    refine lv_aload_n hx hb dX5_lastOf_11 rfl (lv_at hl 0 rfl) ?_
    refine va_get (D := (dC, dI)) (ci := 6) (v := .int ms) (C := RX5) (T := TX5) (N := 27) hx hb hts (by decide +kernel) hown hK hP 0 rfl rfl 1 (by decide) (hts (.fieldLink RX5 73 "CobolDebuggerModel" "statements" "I") (by decide +kernel)) (fun _ h9 => h9) rfl dX5_lastOf_12 ?_
    refine lv_icmp_ge (tgt := 36) hx hb dX5_lastOf_15 (by decide) (fun c_15 => ?_) (fun c_15 => ?_)
    · refine lv_iload_n hx hb dX5_lastOf_36 rfl (lv_at hl 2 rfl) ?_
      exact W.iret (v := sx) hx hb hr (fun t ht hW => ⟨⟨sx, (), rfl, trivial, trivial⟩, hS.F ht⟩) hS.2.2 dX5_lastOf_37
    · have hsp := pos_n c_7
      have hlt := n_lt c_15
      refine lv_aload_n hx hb dX5_lastOf_18 rfl (lv_at hl 0 rfl) ?_
      refine va_get (D := (dC, dI)) (ci := 6) (v := .ref m1) (C := RX5) (T := TX5) (N := 27) hx hb hts (by decide +kernel) hown hK hP 0 rfl rfl 8 (by decide) (hts (.fieldLink RX5 7 "CobolDebuggerModel" "paragraphs" "[I") (by decide +kernel)) (fun _ h9 => h9) rfl dX5_lastOf_19 ?_
      refine lv_iload_n hx hb dX5_lastOf_22 rfl (lv_at hl 2 rfl) ?_
      refine lv_iconst (v := 1) hx hb dX5_lastOf_23 (by decide) ?_
      refine lv_iadd hx hb dX5_lastOf_24 ?_
      refine va_iald hx hb hK hP 1 0 rfl rfl (i := sx + 1) (ix_r (by rw [i_p1 (by omega) (by omega)]; omega) (by rw [i_p1 (by omega) (by omega)]; omega)) dX5_lastOf_25 ?_
      refine lv_iload_n hx hb dX5_lastOf_26 rfl (lv_at hl 1 rfl) ?_
      refine lv_icmp_ne (tgt := 36) hx hb dX5_lastOf_27 (by decide) (fun c_27 => ?_) (fun c_27 => ?_)
      · refine lv_iload_n hx hb dX5_lastOf_36 rfl (lv_at hl 2 rfl) ?_
        exact W.iret (v := sx) hx hb hr (fun t ht hW => ⟨⟨sx, (), rfl, trivial, trivial⟩, hS.F ht⟩) hS.2.2 dX5_lastOf_37
      · obtain ⟨i_1, e_i_1⟩ : ∃ y : Int32, y = sx + 1 := ⟨_, rfl⟩
        refine lv_iinc (v := i_1) (lv' := [(2, .int i_1), (0, .ref m0), (1, .int pa)]) hx hb dX5_lastOf_30 hl (k := 2) rfl (by rw [e_i_1]; rfl) (by decide) rfl (fun ls hl => ?_)
        refine lv_goto (tgt := 6) hx hb dX5_lastOf_33 (by decide) ?_
        exact ih i_1 _ _ _ ⟨lv_sub hl [1, 2, 0] rfl, hP, hS, by rw [e_i_1, i_p1 (by omega) (by omega)]; omega⟩ (by rw [e_i_1, i_p1 (by omega) (by omega)]; omega)

set_option maxHeartbeats 4000000 in
set_option maxRecDepth 100000 in
theorem c_X5_behind (l : Launch) (dC : Nat → ClassId) (dI : Nat → Nat → Nat) (sz : Nat) (m0 m1 m2 m3 m4 m5 m6 m7 m8 m9 m10 m11 m12 m13 m14 m15 m16 m17 m18 m19 : Nat) (km12 km13 : ClassId) (mpf men : Nat → Int32) (ce ms mi mt ma mf mk mp : Int32) (st : Int32) (hs0 : 0 ≤ ms.toInt) (hs1 : ms.toInt ≤ 100) (hst0 : 0 ≤ st.toInt) (hst1 : st.toInt ≤ ms.toInt) (hp0 : 0 ≤ mp.toInt) (hp1 : mp.toInt ≤ 20) (hpf : ∀ j, 0 ≤ (mpf j).toInt ∧ (mpf j).toInt ≤ ms.toInt) : Met l yX5_behind wsX5_behind ({ frames := 0, cells := 0, slots := 0, locals := 0 }) (va_Pc [.ref m0, .int st] (fun U => U.heap.size = sz ∧ va_P (dC, dI) vwCl [(m0, .inr (6, [.int ce, .int ms, .int mi, .int mt, .int ma, .int mf, .int mk, .int mp, .ref m1, .ref m2, .ref m3, .ref m4, .ref m5, .ref m6, .ref m7, .ref m8, .ref m9, .ref m10, .ref m11, .ref m12, .ref m13, .ref m14, .ref m15, .ref m16, .ref m17, .ref m18, .ref m19])), (m12, .inl (km12, 20, .inl mpf)), (m13, .inl (km13, 20, .inl men))] U.heap ∧ va_K (dC, dI) vwCl [(km12, .int), (km13, .int)] U ∧ va_D (fun _ => True) [(m0, .inr (6, [.int ce, .int ms, .int mi, .int mt, .int ma, .int mf, .int mk, .int mp, .ref m1, .ref m2, .ref m3, .ref m4, .ref m5, .ref m6, .ref m7, .ref m8, .ref m9, .ref m10, .ref m11, .ref m12, .ref m13, .ref m14, .ref m15, .ref m16, .ref m17, .ref m18, .ref m19])), (m12, .inl (km12, 20, .inl mpf)), (m13, .inl (km13, 20, .inl men))])) (va_Qi (fun (r : Int32) (u : Int32) => 0 ≤ r.toInt ∧ r.toInt ≤ ms.toInt ∧ 0 ≤ (u).toInt ∧ (u).toInt ≤ 20) (fun (u : Int32) (t : State) => va_P (dC, dI) vwCl [(m0, .inr (6, [.int ce, .int ms, .int mi, .int mt, .int ma, .int mf, .int mk, .int u, .ref m1, .ref m2, .ref m3, .ref m4, .ref m5, .ref m6, .ref m7, .ref m8, .ref m9, .ref m10, .ref m11, .ref m12, .ref m13, .ref m14, .ref m15, .ref m16, .ref m17, .ref m18, .ref m19])), (m12, .inl (km12, 20, .inl mpf)), (m13, .inl (km13, 20, .inl men))] t.heap ∧ va_D (va_A [(m0, .inr (6, [.int ce, .int ms, .int mi, .int mt, .int ma, .int mf, .int mk, .int mp, .ref m1, .ref m2, .ref m3, .ref m4, .ref m5, .ref m6, .ref m7, .ref m8, .ref m9, .ref m10, .ref m11, .ref m12, .ref m13, .ref m14, .ref m15, .ref m16, .ref m17, .ref m18, .ref m19])), (m12, .inl (km12, 20, .inl mpf)), (m13, .inl (km13, 20, .inl men))] sz) [(m0, .inr (6, [.int ce, .int ms, .int mi, .int mt, .int ma, .int mf, .int mk, .int u, .ref m1, .ref m2, .ref m3, .ref m4, .ref m5, .ref m6, .ref m7, .ref m8, .ref m9, .ref m10, .ref m11, .ref m12, .ref m13, .ref m14, .ref m15, .ref m16, .ref m17, .ref m18, .ref m19])), (m12, .inl (km12, 20, .inl mpf)), (m13, .inl (km13, 20, .inl men))]) (va_A [(m0, .inr (6, [.int ce, .int ms, .int mi, .int mt, .int ma, .int mf, .int mk, .int mp, .ref m1, .ref m2, .ref m3, .ref m4, .ref m5, .ref m6, .ref m7, .ref m8, .ref m9, .ref m10, .ref m11, .ref m12, .ref m13, .ref m14, .ref m15, .ref m16, .ref m17, .ref m18, .ref m19])), (m12, .inl (km12, 20, .inl mpf)), (m13, .inl (km13, 20, .inl men))] sz)) 0 0 (va_A [(m0, .inr (6, [.int ce, .int ms, .int mi, .int mt, .int ma, .int mf, .int mk, .int mp, .ref m1, .ref m2, .ref m3, .ref m4, .ref m5, .ref m6, .ref m7, .ref m8, .ref m9, .ref m10, .ref m11, .ref m12, .ref m13, .ref m14, .ref m15, .ref m16, .ref m17, .ref m18, .ref m19])), (m12, .inl (km12, 20, .inl mpf)), (m13, .inl (km13, 20, .inl men))] sz) := by
  refine Met.ofW (cc := cX5_behind) (maxL := 3) (ret := (some .int)) (by decide) rfl ?_
  intro p e s m args below meth c s₁ B hml hv
  obtain ⟨rfl, hsz, hP, hK, hD0⟩ := hv
  have hx := B.exec
  have hb := B.bytes
  have hr := B.returns
  have hts := atoms_spec (ws := wsX5_behind) B.pre
  have hown : s.vm.findClass RX5 = some m.cls := findClass_of_methodNamed B.named
  have hlocks := B.notSynchronized
  subst hsz
  have hD := hD0.self (sz := s.heap.size)
  generalize hAe : va_A [(m0, .inr (6, [.int ce, .int ms, .int mi, .int mt, .int ma, .int mf, .int mk, .int mp, .ref m1, .ref m2, .ref m3, .ref m4, .ref m5, .ref m6, .ref m7, .ref m8, .ref m9, .ref m10, .ref m11, .ref m12, .ref m13, .ref m14, .ref m15, .ref m16, .ref m17, .ref m18, .ref m19])), (m12, .inl (km12, 20, .inl mpf)), (m13, .inl (km13, 20, .inl men))] s.heap.size = A at hD ⊢
  have hA : ∀ q : Nat, s.heap.size ≤ q → A q := fun q h => by rw [← hAe]; exact Or.inr h
  have hS : va_S A s.heap s.heap [] := va_S.rf
  have hl := lv_entry ([.ref m0, .int st]) (n := 3) (Nat.le_of_ble_eq_true rfl)
  rw [lg_entry_eq]
  generalize (lg_sl ([.ref m0, .int st]) ++ List.replicate (3 - (lg_sl ([.ref m0, .int st])).length) Slot.unset).toArray = ls at hl ⊢
  have hl : lv_has ls 3 [(0, .ref m0), (1, .int st)] := hl
  refine lv_iload_n hx hb dX5_behind_0 rfl (lv_at hl 1 rfl) ?_
  refine lv_istore_n (lv' := [(2, .int st), (0, .ref m0), (1, .int st)]) hx hb dX5_behind_1 rfl hl (by decide) rfl (fun ls hl => ?_)
  refine wl2 (μ := fun (nw : Int32) (mpx : Int32) => mpx.toInt.toNat) (I := fun (nw : Int32) (mpx : Int32) (ls : Array Slot) (H : Heap) (locs : List Loc) => lv_has ls 3 [(0, .ref m0), (2, .int nw)] ∧ va_P (dC, dI) vwCl [(m0, .inr (6, [.int ce, .int ms, .int mi, .int mt, .int ma, .int mf, .int mk, .int mpx, .ref m1, .ref m2, .ref m3, .ref m4, .ref m5, .ref m6, .ref m7, .ref m8, .ref m9, .ref m10, .ref m11, .ref m12, .ref m13, .ref m14, .ref m15, .ref m16, .ref m17, .ref m18, .ref m19])), (m12, .inl (km12, 20, .inl mpf)), (m13, .inl (km13, 20, .inl men))] H ∧ va_D A [(m0, .inr (6, [.int ce, .int ms, .int mi, .int mt, .int ma, .int mf, .int mk, .int mpx, .ref m1, .ref m2, .ref m3, .ref m4, .ref m5, .ref m6, .ref m7, .ref m8, .ref m9, .ref m10, .ref m11, .ref m12, .ref m13, .ref m14, .ref m15, .ref m16, .ref m17, .ref m18, .ref m19])), (m12, .inl (km12, 20, .inl mpf)), (m13, .inl (km13, 20, .inl men))] ∧ va_S A s.heap H locs ∧ (0 ≤ nw.toInt) ∧ (nw.toInt ≤ ms.toInt) ∧ (0 ≤ mpx.toInt) ∧ (mpx.toInt ≤ 20)) (fun nw mpx ls H locs hI ih => ?_) st mp ls _ _ ⟨lv_sub hl [1, 0] rfl, hP, hD, hS, hst0, hst1, hp0, hp1⟩
  obtain ⟨hl, hP, hD, hS, hn0, hn1, hx0, hx1⟩ := hI
  refine lv_aload_n hx hb dX5_behind_2 rfl (lv_at hl 0 rfl) ?_
  refine va_get (D := (dC, dI)) (ci := 6) (v := .int mpx) (C := RX5) (T := TX5) (N := 27) hx hb hts (by decide +kernel) hown hK hP 0 rfl rfl 7 (by decide) (hts (.fieldLink RX5 116 "CobolDebuggerModel" "open" "I") (by decide +kernel)) (fun _ h9 => h9) rfl dX5_behind_3 ?_
  refine lv_if_le (tgt := 47) hx hb dX5_behind_6 (by decide) (fun c_6 => ?_) (fun c_6 => ?_)
  · refine lv_iload_n hx hb dX5_behind_47 rfl (lv_at hl 1 rfl) ?_
    refine lv_aload_n hx hb dX5_behind_48 rfl (lv_at hl 0 rfl) ?_
    refine va_get (D := (dC, dI)) (ci := 6) (v := .int ms) (C := RX5) (T := TX5) (N := 27) hx hb hts (by decide +kernel) hown hK hP 0 rfl rfl 1 (by decide) (hts (.fieldLink RX5 73 "CobolDebuggerModel" "statements" "I") (by decide +kernel)) (fun _ h9 => h9) rfl dX5_behind_49 ?_
    refine lv_icmp_ne (tgt := 59) hx hb dX5_behind_52 (by decide) (fun c_52 => ?_) (fun c_52 => ?_)
    · refine lv_iload_n hx hb dX5_behind_59 rfl (lv_at hl 1 rfl) ?_
      refine lv_iconst (v := 1) hx hb dX5_behind_60 (by decide) ?_
      refine lv_iadd hx hb dX5_behind_61 ?_
      exact W.iret (v := nw + 1) hx hb hr (fun t ht hW => ⟨⟨(nw + 1), mpx, rfl, ⟨by rw [i_p1 (by omega) (by omega)]; omega, by rw [i_p1 (by omega) (by omega)]; have := i_ne c_52; omega, hx0, hx1⟩, by rw [ht]; exact hP, hD⟩, hS.F ht⟩) hS.2.2 dX5_behind_62
    · refine lv_iconst (v := 0) hx hb dX5_behind_55 (by decide) ?_
      refine lv_goto (tgt := 62) hx hb dX5_behind_56 (by decide) ?_
      exact W.iret (v := 0) hx hb hr (fun t ht hW => ⟨⟨0, mpx, rfl, ⟨(show 0 ≤ (0 : Int32).toInt by decide), (show (0 : Int32).toInt ≤ ms.toInt by rw [Int32.toInt_zero]; exact hs0), hx0, hx1⟩, by rw [ht]; exact hP, hD⟩, hS.F ht⟩) hS.2.2 dX5_behind_62
  · refine lv_aload_n hx hb dX5_behind_9 rfl (lv_at hl 0 rfl) ?_
    refine va_get (D := (dC, dI)) (ci := 6) (v := .ref m13) (C := RX5) (T := TX5) (N := 27) hx hb hts (by decide +kernel) hown hK hP 0 rfl rfl 20 (by decide) (hts (.fieldLink RX5 48 "CobolDebuggerModel" "ends" "[I") (by decide +kernel)) (fun _ h9 => h9) rfl dX5_behind_10 ?_
    refine lv_aload_n hx hb dX5_behind_13 rfl (lv_at hl 0 rfl) ?_
    refine va_get (D := (dC, dI)) (ci := 6) (v := .int mpx) (C := RX5) (T := TX5) (N := 27) hx hb hts (by decide +kernel) hown hK hP 0 rfl rfl 7 (by decide) (hts (.fieldLink RX5 116 "CobolDebuggerModel" "open" "I") (by decide +kernel)) (fun _ h9 => h9) rfl dX5_behind_14 ?_
    refine lv_iconst (v := 1) hx hb dX5_behind_17 (by decide) ?_
    refine lv_isub hx hb dX5_behind_18 ?_
    refine va_iald hx hb hK hP 2 1 rfl rfl (i := mpx - 1) (ix_s1 (pos_n c_6) hx1) dX5_behind_19 ?_
    refine lv_iload_n hx hb dX5_behind_20 rfl (lv_at hl 1 rfl) ?_
    refine lv_icmp_ne (tgt := 47) hx hb dX5_behind_21 (by decide) (fun c_21 => ?_) (fun c_21 => ?_)
    · refine lv_iload_n hx hb dX5_behind_47 rfl (lv_at hl 1 rfl) ?_
      refine lv_aload_n hx hb dX5_behind_48 rfl (lv_at hl 0 rfl) ?_
      refine va_get (D := (dC, dI)) (ci := 6) (v := .int ms) (C := RX5) (T := TX5) (N := 27) hx hb hts (by decide +kernel) hown hK hP 0 rfl rfl 1 (by decide) (hts (.fieldLink RX5 73 "CobolDebuggerModel" "statements" "I") (by decide +kernel)) (fun _ h9 => h9) rfl dX5_behind_49 ?_
      refine lv_icmp_ne (tgt := 59) hx hb dX5_behind_52 (by decide) (fun c_52 => ?_) (fun c_52 => ?_)
      · refine lv_iload_n hx hb dX5_behind_59 rfl (lv_at hl 1 rfl) ?_
        refine lv_iconst (v := 1) hx hb dX5_behind_60 (by decide) ?_
        refine lv_iadd hx hb dX5_behind_61 ?_
        exact W.iret (v := nw + 1) hx hb hr (fun t ht hW => ⟨⟨(nw + 1), mpx, rfl, ⟨by rw [i_p1 (by omega) (by omega)]; omega, by rw [i_p1 (by omega) (by omega)]; have := i_ne c_52; omega, hx0, hx1⟩, by rw [ht]; exact hP, hD⟩, hS.F ht⟩) hS.2.2 dX5_behind_62
      · refine lv_iconst (v := 0) hx hb dX5_behind_55 (by decide) ?_
        refine lv_goto (tgt := 62) hx hb dX5_behind_56 (by decide) ?_
        exact W.iret (v := 0) hx hb hr (fun t ht hW => ⟨⟨0, mpx, rfl, ⟨(show 0 ≤ (0 : Int32).toInt by decide), (show (0 : Int32).toInt ≤ ms.toInt by rw [Int32.toInt_zero]; exact hs0), hx0, hx1⟩, by rw [ht]; exact hP, hD⟩, hS.F ht⟩) hS.2.2 dX5_behind_62
    · refine lv_aload_n hx hb dX5_behind_24 rfl (lv_at hl 0 rfl) ?_
      refine lv_dup hx hb dX5_behind_25 rfl ?_
      refine va_get (D := (dC, dI)) (ci := 6) (v := .int mpx) (C := RX5) (T := TX5) (N := 27) hx hb hts (by decide +kernel) hown hK hP 0 rfl rfl 7 (by decide) (hts (.fieldLink RX5 116 "CobolDebuggerModel" "open" "I") (by decide +kernel)) (fun _ h9 => h9) rfl dX5_behind_26 ?_
      refine lv_iconst (v := 1) hx hb dX5_behind_29 (by decide) ?_
      refine lv_isub hx hb dX5_behind_30 ?_
      refine lv_topi (fun v_1 e_v_1 => ?_)
      refine va_put (D := (dC, dI)) (ci := 6) (v := .int v_1) (ty := .int) (C := RX5) (T := TX5) (N := 27) hx hb hts (by decide +kernel) tyX5 tyX5_ok nmX5 hown hK hP hD hS 0 rfl rfl 7 (by decide) (hts (.fieldLink RX5 116 "CobolDebuggerModel" "open" "I") (by decide +kernel)) (fun _ h9 => h9) rfl (by decide +kernel) rfl rfl (Nat.le_of_ble_eq_true rfl) dX5_behind_31 (fun H locs hP hD hS => ?_)
      have hP : va_P (dC, dI) vwCl [(m0, .inr (6, [.int ce, .int ms, .int mi, .int mt, .int ma, .int mf, .int mk, .int v_1, .ref m1, .ref m2, .ref m3, .ref m4, .ref m5, .ref m6, .ref m7, .ref m8, .ref m9, .ref m10, .ref m11, .ref m12, .ref m13, .ref m14, .ref m15, .ref m16, .ref m17, .ref m18, .ref m19])), (m12, .inl (km12, 20, .inl mpf)), (m13, .inl (km13, 20, .inl men))] H := hP
      have hD : va_D A [(m0, .inr (6, [.int ce, .int ms, .int mi, .int mt, .int ma, .int mf, .int mk, .int v_1, .ref m1, .ref m2, .ref m3, .ref m4, .ref m5, .ref m6, .ref m7, .ref m8, .ref m9, .ref m10, .ref m11, .ref m12, .ref m13, .ref m14, .ref m15, .ref m16, .ref m17, .ref m18, .ref m19])), (m12, .inl (km12, 20, .inl mpf)), (m13, .inl (km13, 20, .inl men))] := hD
      have hq : v_1.toInt = mpx.toInt - 1 := by rw [e_v_1, i_s1 (by omega)]
      have hq2 := pos_n c_6
      have hin : vp_in v_1 20 := ix_r (by omega) (by omega)
      refine lv_aload_n hx hb dX5_behind_34 rfl (lv_at hl 0 rfl) ?_
      refine va_get (D := (dC, dI)) (ci := 6) (v := .ref m12) (C := RX5) (T := TX5) (N := 27) hx hb hts (by decide +kernel) hown hK hP 0 rfl rfl 19 (by decide) (hts (.fieldLink RX5 45 "CobolDebuggerModel" "performed" "[I") (by decide +kernel)) (fun _ h9 => h9) rfl dX5_behind_35 ?_
      refine lv_aload_n hx hb dX5_behind_38 rfl (lv_at hl 0 rfl) ?_
      refine va_get (D := (dC, dI)) (ci := 6) (v := .int v_1) (C := RX5) (T := TX5) (N := 27) hx hb hts (by decide +kernel) hown hK hP 0 rfl rfl 7 (by decide) (hts (.fieldLink RX5 116 "CobolDebuggerModel" "open" "I") (by decide +kernel)) (fun _ h9 => h9) rfl dX5_behind_39 ?_
      refine va_iald hx hb hK hP 1 0 rfl rfl (i := v_1) hin dX5_behind_42 ?_
      refine lv_istore_n (lv' := [(2, .int (mpf v_1.toNatClampNeg)), (0, .ref m0)]) hx hb dX5_behind_43 rfl hl (by decide) rfl (fun ls hl => ?_)
      refine lv_goto (tgt := 2) hx hb dX5_behind_44 (by decide) ?_
      exact ih (mpf v_1.toNatClampNeg) v_1 _ _ _ ⟨lv_sub hl [1, 0] rfl, hP, hD, hS, (hpf _).1, (hpf _).2, by omega, by omega⟩ (by omega)
