set_option maxHeartbeats 4000000 in
set_option maxRecDepth 100000 in
theorem g_X5_change (l : Launch) (dC : Nat → ClassId) (dI : Nat → Nat → Nat) (sz : Nat) (m0 m1 m2 m3 m4 m5 m6 m7 m8 m9 m10 m11 m12 m13 m14 m15 m16 m17 m18 m19 : Nat) (km5 km6 km7 : ClassId) (mus mss mbs : Nat → Int32) (ce ms mi mt ma mf mk mp : Int32) (im : Int32) (v : Int64) (hit : itI mi mss) : Met l yX5_change wsX5_change ({ frames := 1, cells := 0, slots := 0, locals := 30 }) (va_Pc [.ref m0, .int im, .long v] (fun U => U.heap.size = sz ∧ va_P (dC, dI) vwCl [(m0, .inr (6, [.int ce, .int ms, .int mi, .int mt, .int ma, .int mf, .int mk, .int mp, .ref m1, .ref m2, .ref m3, .ref m4, .ref m5, .ref m6, .ref m7, .ref m8, .ref m9, .ref m10, .ref m11, .ref m12, .ref m13, .ref m14, .ref m15, .ref m16, .ref m17, .ref m18, .ref m19])), (m5, .inl (km5, 30, .inl mus)), (m6, .inl (km6, 30, .inl mss)), (m7, .inl (km7, 270, .inl mbs))] U.heap ∧ va_K (dC, dI) vwCl [(km5, .int), (km6, .int), (km7, .byte)] U ∧ va_D (fun _ => True) [(m0, .inr (6, [.int ce, .int ms, .int mi, .int mt, .int ma, .int mf, .int mk, .int mp, .ref m1, .ref m2, .ref m3, .ref m4, .ref m5, .ref m6, .ref m7, .ref m8, .ref m9, .ref m10, .ref m11, .ref m12, .ref m13, .ref m14, .ref m15, .ref m16, .ref m17, .ref m18, .ref m19])), (m5, .inl (km5, 30, .inl mus)), (m6, .inl (km6, 30, .inl mss)), (m7, .inl (km7, 270, .inl mbs))])) (va_Qi (fun (r : Int32) (u : Int32 × (Nat → Int32)) => r = changeA mi mus im ∧ (fitB mbs → fitB (u.2))) (fun (u : Int32 × (Nat → Int32)) (t : State) => va_P (dC, dI) vwCl [(m0, .inr (6, [.int u.1, .int ms, .int mi, .int mt, .int ma, .int mf, .int mk, .int mp, .ref m1, .ref m2, .ref m3, .ref m4, .ref m5, .ref m6, .ref m7, .ref m8, .ref m9, .ref m10, .ref m11, .ref m12, .ref m13, .ref m14, .ref m15, .ref m16, .ref m17, .ref m18, .ref m19])), (m5, .inl (km5, 30, .inl mus)), (m6, .inl (km6, 30, .inl mss)), (m7, .inl (km7, 270, .inl u.2))] t.heap ∧ va_D (va_A [(m0, .inr (6, [.int ce, .int ms, .int mi, .int mt, .int ma, .int mf, .int mk, .int mp, .ref m1, .ref m2, .ref m3, .ref m4, .ref m5, .ref m6, .ref m7, .ref m8, .ref m9, .ref m10, .ref m11, .ref m12, .ref m13, .ref m14, .ref m15, .ref m16, .ref m17, .ref m18, .ref m19])), (m5, .inl (km5, 30, .inl mus)), (m6, .inl (km6, 30, .inl mss)), (m7, .inl (km7, 270, .inl mbs))] sz) [(m0, .inr (6, [.int u.1, .int ms, .int mi, .int mt, .int ma, .int mf, .int mk, .int mp, .ref m1, .ref m2, .ref m3, .ref m4, .ref m5, .ref m6, .ref m7, .ref m8, .ref m9, .ref m10, .ref m11, .ref m12, .ref m13, .ref m14, .ref m15, .ref m16, .ref m17, .ref m18, .ref m19])), (m5, .inl (km5, 30, .inl mus)), (m6, .inl (km6, 30, .inl mss)), (m7, .inl (km7, 270, .inl u.2))]) (va_A [(m0, .inr (6, [.int ce, .int ms, .int mi, .int mt, .int ma, .int mf, .int mk, .int mp, .ref m1, .ref m2, .ref m3, .ref m4, .ref m5, .ref m6, .ref m7, .ref m8, .ref m9, .ref m10, .ref m11, .ref m12, .ref m13, .ref m14, .ref m15, .ref m16, .ref m17, .ref m18, .ref m19])), (m5, .inl (km5, 30, .inl mus)), (m6, .inl (km6, 30, .inl mss)), (m7, .inl (km7, 270, .inl mbs))] sz)) 0 0 (va_A [(m0, .inr (6, [.int ce, .int ms, .int mi, .int mt, .int ma, .int mf, .int mk, .int mp, .ref m1, .ref m2, .ref m3, .ref m4, .ref m5, .ref m6, .ref m7, .ref m8, .ref m9, .ref m10, .ref m11, .ref m12, .ref m13, .ref m14, .ref m15, .ref m16, .ref m17, .ref m18, .ref m19])), (m5, .inl (km5, 30, .inl mus)), (m6, .inl (km6, 30, .inl mss)), (m7, .inl (km7, 270, .inl mbs))] sz) := by
  refine Met.ofW (cc := cX5_change) (maxL := 4) (ret := (some .int)) (by decide) rfl ?_
  intro p e s m args below meth c s₁ B hml hv
  obtain ⟨rfl, hsz, hP, hK, hD0⟩ := hv
  have hx := B.exec
  have hb := B.bytes
  have hr := B.returns
  have hts := atoms_spec (ws := wsX5_change) B.pre
  have hown : s.vm.findClass RX5 = some m.cls := findClass_of_methodNamed B.named
  have hlocks := B.notSynchronized
  subst hsz
  have hD := hD0.self (sz := s.heap.size)
  generalize hAe : va_A [(m0, .inr (6, [.int ce, .int ms, .int mi, .int mt, .int ma, .int mf, .int mk, .int mp, .ref m1, .ref m2, .ref m3, .ref m4, .ref m5, .ref m6, .ref m7, .ref m8, .ref m9, .ref m10, .ref m11, .ref m12, .ref m13, .ref m14, .ref m15, .ref m16, .ref m17, .ref m18, .ref m19])), (m5, .inl (km5, 30, .inl mus)), (m6, .inl (km6, 30, .inl mss)), (m7, .inl (km7, 270, .inl mbs))] s.heap.size = A at hD ⊢
  have hA : ∀ q : Nat, s.heap.size ≤ q → A q := fun q h => by rw [← hAe]; exact Or.inr h
  have hS : va_S A s.heap s.heap [] := va_S.rf
  have hl := lv_entry ([.ref m0, .int im, .long v]) (n := 4) (Nat.le_of_ble_eq_true rfl)
  rw [lg_entry_eq]
  generalize (lg_sl ([.ref m0, .int im, .long v]) ++ List.replicate (4 - (lg_sl ([.ref m0, .int im, .long v])).length) Slot.unset).toArray = ls at hl ⊢
  have hl : lv_has ls 4 [(0, .ref m0), (1, .int im), (2, .long v)] := hl
  refine lv_aload_n hx hb dX5_change_0 rfl (lv_at hl 0 rfl) ?_
  refine lv_iconst (v := 0) hx hb dX5_change_1 (by decide) ?_
  refine va_put (D := (dC, dI)) (ci := 6) (v := .int 0) (ty := .int) (C := RX5) (T := TX5) (N := 27) hx hb hts (by decide +kernel) tyX5 tyX5_ok nmX5 hown hK hP hD hS 0 rfl rfl 0 (by decide) (hts (.fieldLink RX5 69 "CobolDebuggerModel" "code" "I") (by decide +kernel)) (fun _ h9 => h9) rfl (by decide +kernel) rfl rfl (Nat.le_of_ble_eq_true rfl) dX5_change_2 (fun H locs hP hD hS => ?_)
  have hP : va_P (dC, dI) vwCl [(m0, .inr (6, [.int 0, .int ms, .int mi, .int mt, .int ma, .int mf, .int mk, .int mp, .ref m1, .ref m2, .ref m3, .ref m4, .ref m5, .ref m6, .ref m7, .ref m8, .ref m9, .ref m10, .ref m11, .ref m12, .ref m13, .ref m14, .ref m15, .ref m16, .ref m17, .ref m18, .ref m19])), (m5, .inl (km5, 30, .inl mus)), (m6, .inl (km6, 30, .inl mss)), (m7, .inl (km7, 270, .inl mbs))] H := hP
  have hD : va_D A [(m0, .inr (6, [.int 0, .int ms, .int mi, .int mt, .int ma, .int mf, .int mk, .int mp, .ref m1, .ref m2, .ref m3, .ref m4, .ref m5, .ref m6, .ref m7, .ref m8, .ref m9, .ref m10, .ref m11, .ref m12, .ref m13, .ref m14, .ref m15, .ref m16, .ref m17, .ref m18, .ref m19])), (m5, .inl (km5, 30, .inl mus)), (m6, .inl (km6, 30, .inl mss)), (m7, .inl (km7, 270, .inl mbs))] := hD
  refine lv_aload_n hx hb dX5_change_5 rfl (lv_at hl 0 rfl) ?_
  refine lv_iload_n hx hb dX5_change_6 rfl (lv_at hl 1 rfl) ?_
  have hPc := hP.sub (ws' := [(m0, .inr (6, [.int 0, .int ms, .int mi, .int mt, .int ma, .int mf, .int mk, .int mp, .ref m1, .ref m2, .ref m3, .ref m4, .ref m5, .ref m6, .ref m7, .ref m8, .ref m9, .ref m10, .ref m11, .ref m12, .ref m13, .ref m14, .ref m15, .ref m16, .ref m17, .ref m18, .ref m19]))]) [0] rfl
  have hKc := hK.sub (tys' := []) [] rfl
  refine va_calli (va_runV (As := [.int im]) (rest := []) ⟨hx, hb, hml, hown, hts⟩ (c_X5_isItem l dC dI m0 m1 m2 m3 m4 m5 m6 m7 m8 m9 m10 m11 m12 m13 m14 m15 m16 m17 m18 m19 0 ms mi mt ma mf mk mp im) (cwV 1 hts gX5_change_X5_isItem rfl rfl rfl (by decide +kernel) ⟨Nat.le_of_ble_eq_true rfl, Nat.le_of_ble_eq_true rfl⟩) ⟨fun a U g mk q => by obtain ⟨q0, qP, qK⟩ := q; exact ⟨q0, qP, va_K.moved (u := U) (U := U.calling g mk a) (Vm.Alike.refl U.vm) qK⟩, va_recv hKc hPc (ci := 6) (q0 := 0) rfl rfl, fun U hU hW => ⟨rfl, by rw [hU]; exact hPc, va_K.moved hW.alike hKc⟩⟩ rfl rfl hl.1 rfl (lv_room (Nat.le_of_ble_eq_true rfl)) dX5_change_7 ⟨Nat.zero_le _, Nat.zero_le _⟩) hS (fun q _ h => h.elim) (fun q h => h.elim) (fun r_7 u t H1 locs ht hvm w_7 hB hz1 hk1 hS => ?_)
  try dsimp only at w_7
  have hP := rd_keep hP hk1
  clear hB hk1 hz1 ht hvm u t
  generalize H1 = H at hP hS ⊢
  have w_7 := z01 w_7
  refine lv_if_ne (tgt := 16) hx hb dX5_change_10 (by decide) (fun c_10 => ?_) (fun c_10 => ?_)
  · have hq0 := i_n0 (fun h => c_10 (w_7.mpr (Or.inl h)))
    have hq1 := n_lt (fun h => c_10 (w_7.mpr (Or.inr h)))
    have him : vp_in im 30 := it_in hit hq0 hq1
    have hsz := it_s hit hq0 hq1
    refine lv_aload_n hx hb dX5_change_16 rfl (lv_at hl 0 rfl) ?_
    refine va_get (D := (dC, dI)) (ci := 6) (v := .ref m5) (C := RX5) (T := TX5) (N := 27) hx hb hts (by decide +kernel) hown hK hP 0 rfl rfl 12 (by decide) (hts (.fieldLink RX5 23 "CobolDebuggerModel" "usages" "[I") (by decide +kernel)) (fun _ h9 => h9) rfl dX5_change_17 ?_
    refine lv_iload_n hx hb dX5_change_20 rfl (lv_at hl 1 rfl) ?_
    refine va_iald hx hb hK hP 1 0 rfl rfl (i := im) him dX5_change_21 ?_
    refine lv_iconst (v := 2) hx hb dX5_change_22 (by decide) ?_
    refine lv_icmp_ne (tgt := 28) hx hb dX5_change_23 (by decide) (fun c_23 => ?_) (fun c_23 => ?_)
    · refine lv_aload_n hx hb dX5_change_28 rfl (lv_at hl 0 rfl) ?_
      refine lv_iload_n hx hb dX5_change_29 rfl (lv_at hl 1 rfl) ?_
      refine lv_lload_n hx hb dX5_change_30 rfl (lv_at hl 2 rfl) ?_
      have hPc := hP.sub (ws' := [(m0, .inr (6, [.int 0, .int ms, .int mi, .int mt, .int ma, .int mf, .int mk, .int mp, .ref m1, .ref m2, .ref m3, .ref m4, .ref m5, .ref m6, .ref m7, .ref m8, .ref m9, .ref m10, .ref m11, .ref m12, .ref m13, .ref m14, .ref m15, .ref m16, .ref m17, .ref m18, .ref m19])), (m5, .inl (km5, 30, .inl mus)), (m6, .inl (km6, 30, .inl mss)), (m7, .inl (km7, 270, .inl mbs))]) [0, 1, 2, 3] rfl
      have hKc := hK.sub (tys' := [(km5, .int), (km6, .int), (km7, .byte)]) [0, 1, 2] rfl
      have hDc := hD.sub (ws' := [(m0, .inr (6, [.int 0, .int ms, .int mi, .int mt, .int ma, .int mf, .int mk, .int mp, .ref m1, .ref m2, .ref m3, .ref m4, .ref m5, .ref m6, .ref m7, .ref m8, .ref m9, .ref m10, .ref m11, .ref m12, .ref m13, .ref m14, .ref m15, .ref m16, .ref m17, .ref m18, .ref m19])), (m5, .inl (km5, 30, .inl mus)), (m6, .inl (km6, 30, .inl mss)), (m7, .inl (km7, 270, .inl mbs))]) [0, 1, 2, 3] (by decide) rfl
      have hFc := va_free (wc := [(m0, .inr (6, [.int 0, .int ms, .int mi, .int mt, .int ma, .int mf, .int mk, .int mp, .ref m1, .ref m2, .ref m3, .ref m4, .ref m5, .ref m6, .ref m7, .ref m8, .ref m9, .ref m10, .ref m11, .ref m12, .ref m13, .ref m14, .ref m15, .ref m16, .ref m17, .ref m18, .ref m19])), (m5, .inl (km5, 30, .inl mus)), (m6, .inl (km6, 30, .inl mss)), (m7, .inl (km7, 270, .inl mbs))]) hD hS hA [0, 1, 2, 3] rfl
      refine va_callv (va_runV (As := [.int im, .long v]) (rest := []) ⟨hx, hb, hml, hown, hts⟩ (c_X5_become l dC dI H.size m0 m1 m2 m3 m4 m5 m6 m7 m8 m9 m10 m11 m12 m13 m14 m15 m16 m17 m18 m19 km5 km6 km7 mus mss mbs 0 ms mi mt ma mf mk mp im v (him) (hsz.1) (hsz.2)) (cwV 2 hts gX5_change_X5_become rfl rfl rfl (by decide +kernel) ⟨Nat.le_of_ble_eq_true rfl, Nat.le_of_ble_eq_true rfl⟩) ⟨fun a U g mk q => by obtain ⟨q0, q1, qP, qK, qD⟩ := q; exact ⟨q0, q1, qP, va_K.moved (u := U) (U := U.calling g mk a) (Vm.Alike.refl U.vm) qK, qD⟩, va_recv hKc hPc (ci := 6) (q0 := 0) rfl rfl, fun U hU hW => ⟨rfl, by rw [hU], by rw [hU]; exact hPc, va_K.moved hW.alike hKc, hDc.weaken (fun _ _ _ _ => trivial)⟩⟩ rfl rfl hl.1 rfl (lv_room (Nat.le_of_ble_eq_true rfl)) dX5_change_31 ⟨Nat.zero_le _, Nat.zero_le _⟩) hS (fun q _ h => hFc q h) (fun q h => hFc q h) (fun u t H1 locs ht hvm w_31 hB hz1 hk1 hS => ?_)
      try dsimp only at w_31
      obtain ⟨mbs_31, rfl⟩ : ∃ z, z = u := ⟨_, rfl⟩
      obtain ⟨hP1, hD1⟩ := hB
      rw [ht] at hP1
      obtain ⟨hP, hD⟩ := va_join (wr := []) (w1 := [(m0, .inr (6, [.int 0, .int ms, .int mi, .int mt, .int ma, .int mf, .int mk, .int mp, .ref m1, .ref m2, .ref m3, .ref m4, .ref m5, .ref m6, .ref m7, .ref m8, .ref m9, .ref m10, .ref m11, .ref m12, .ref m13, .ref m14, .ref m15, .ref m16, .ref m17, .ref m18, .ref m19])), (m5, .inl (km5, 30, .inl mus)), (m6, .inl (km6, 30, .inl mss)), (m7, .inl (km7, 270, .inl mbs_31))]) hP hD [0, 1, 2, 3] [] rfl rfl (by decide) (by decide) hk1 hFc hP1 hD1
      generalize H1 = H at hP hS ⊢
      have hP := hP.sub (ws' := [(m0, .inr (6, [.int 0, .int ms, .int mi, .int mt, .int ma, .int mf, .int mk, .int mp, .ref m1, .ref m2, .ref m3, .ref m4, .ref m5, .ref m6, .ref m7, .ref m8, .ref m9, .ref m10, .ref m11, .ref m12, .ref m13, .ref m14, .ref m15, .ref m16, .ref m17, .ref m18, .ref m19])), (m5, .inl (km5, 30, .inl mus)), (m6, .inl (km6, 30, .inl mss)), (m7, .inl (km7, 270, .inl mbs_31))]) [0, 1, 2, 3] rfl
      have hD := hD.sub (ws' := [(m0, .inr (6, [.int 0, .int ms, .int mi, .int mt, .int ma, .int mf, .int mk, .int mp, .ref m1, .ref m2, .ref m3, .ref m4, .ref m5, .ref m6, .ref m7, .ref m8, .ref m9, .ref m10, .ref m11, .ref m12, .ref m13, .ref m14, .ref m15, .ref m16, .ref m17, .ref m18, .ref m19])), (m5, .inl (km5, 30, .inl mus)), (m6, .inl (km6, 30, .inl mss)), (m7, .inl (km7, 270, .inl mbs_31))]) [0, 1, 2, 3] (by decide) rfl
      refine lv_iconst (v := 1) hx hb dX5_change_34 (by decide) ?_
      exact W.iret (v := 1) hx hb hr (fun t ht hW => ⟨⟨1, (0, mbs_31), rfl, ⟨by unfold changeA; rw [if_neg (fun h => c_10 (w_7.mpr h)), if_neg c_23], w_31⟩, by rw [ht]; exact hP, hD⟩, hS.F ht⟩) hS.2.2 dX5_change_35
    · refine lv_iconst (v := 0) hx hb dX5_change_26 (by decide) ?_
      exact W.iret (v := 0) hx hb hr (fun t ht hW => ⟨⟨0, (0, mbs), rfl, ⟨by unfold changeA; rw [if_neg (fun h => c_10 (w_7.mpr h)), if_pos c_23], id⟩, by rw [ht]; exact hP, hD⟩, hS.F ht⟩) hS.2.2 dX5_change_27
  · refine lv_bipush (v := (-2)) hx hb dX5_change_13 (by decide) ?_
    exact W.iret (v := (-2)) hx hb hr (fun t ht hW => ⟨⟨(-2), (0, mbs), rfl, ⟨by unfold changeA; rw [if_pos (w_7.mp c_10)], id⟩, by rw [ht]; exact hP, hD⟩, hS.F ht⟩) hS.2.2 dX5_change_15

set_option maxHeartbeats 4000000 in
set_option maxRecDepth 100000 in
theorem g_X5_poke (l : Launch) (dC : Nat → ClassId) (dI : Nat → Nat → Nat) (sz : Nat) (m0 m1 m2 m3 m4 m5 m6 m7 m8 m9 m10 m11 m12 m13 m14 m15 m16 m17 m18 m19 : Nat) (km5 km6 km7 : ClassId) (mus mss mbs : Nat → Int32) (ce ms mi mt ma mf mk mp : Int32) (im : Int32) (i : Int32) (b : Int32) (hit : itI mi mss) : Met l yX5_poke wsX5_poke ({ frames := 1, cells := 0, slots := 0, locals := 21 }) (va_Pc [.ref m0, .int im, .int i, .int b] (fun U => U.heap.size = sz ∧ va_P (dC, dI) vwCl [(m0, .inr (6, [.int ce, .int ms, .int mi, .int mt, .int ma, .int mf, .int mk, .int mp, .ref m1, .ref m2, .ref m3, .ref m4, .ref m5, .ref m6, .ref m7, .ref m8, .ref m9, .ref m10, .ref m11, .ref m12, .ref m13, .ref m14, .ref m15, .ref m16, .ref m17, .ref m18, .ref m19])), (m5, .inl (km5, 30, .inl mus)), (m6, .inl (km6, 30, .inl mss)), (m7, .inl (km7, 270, .inl mbs))] U.heap ∧ va_K (dC, dI) vwCl [(km5, .int), (km6, .int), (km7, .byte)] U ∧ va_D (fun _ => True) [(m0, .inr (6, [.int ce, .int ms, .int mi, .int mt, .int ma, .int mf, .int mk, .int mp, .ref m1, .ref m2, .ref m3, .ref m4, .ref m5, .ref m6, .ref m7, .ref m8, .ref m9, .ref m10, .ref m11, .ref m12, .ref m13, .ref m14, .ref m15, .ref m16, .ref m17, .ref m18, .ref m19])), (m5, .inl (km5, 30, .inl mus)), (m6, .inl (km6, 30, .inl mss)), (m7, .inl (km7, 270, .inl mbs))])) (va_Qi (fun (r : Int32) (u : Int32 × (Nat → Int32)) => fitB mbs → fitB (u.2)) (fun (u : Int32 × (Nat → Int32)) (t : State) => va_P (dC, dI) vwCl [(m0, .inr (6, [.int u.1, .int ms, .int mi, .int mt, .int ma, .int mf, .int mk, .int mp, .ref m1, .ref m2, .ref m3, .ref m4, .ref m5, .ref m6, .ref m7, .ref m8, .ref m9, .ref m10, .ref m11, .ref m12, .ref m13, .ref m14, .ref m15, .ref m16, .ref m17, .ref m18, .ref m19])), (m5, .inl (km5, 30, .inl mus)), (m6, .inl (km6, 30, .inl mss)), (m7, .inl (km7, 270, .inl u.2))] t.heap ∧ va_D (va_A [(m0, .inr (6, [.int ce, .int ms, .int mi, .int mt, .int ma, .int mf, .int mk, .int mp, .ref m1, .ref m2, .ref m3, .ref m4, .ref m5, .ref m6, .ref m7, .ref m8, .ref m9, .ref m10, .ref m11, .ref m12, .ref m13, .ref m14, .ref m15, .ref m16, .ref m17, .ref m18, .ref m19])), (m5, .inl (km5, 30, .inl mus)), (m6, .inl (km6, 30, .inl mss)), (m7, .inl (km7, 270, .inl mbs))] sz) [(m0, .inr (6, [.int u.1, .int ms, .int mi, .int mt, .int ma, .int mf, .int mk, .int mp, .ref m1, .ref m2, .ref m3, .ref m4, .ref m5, .ref m6, .ref m7, .ref m8, .ref m9, .ref m10, .ref m11, .ref m12, .ref m13, .ref m14, .ref m15, .ref m16, .ref m17, .ref m18, .ref m19])), (m5, .inl (km5, 30, .inl mus)), (m6, .inl (km6, 30, .inl mss)), (m7, .inl (km7, 270, .inl u.2))]) (va_A [(m0, .inr (6, [.int ce, .int ms, .int mi, .int mt, .int ma, .int mf, .int mk, .int mp, .ref m1, .ref m2, .ref m3, .ref m4, .ref m5, .ref m6, .ref m7, .ref m8, .ref m9, .ref m10, .ref m11, .ref m12, .ref m13, .ref m14, .ref m15, .ref m16, .ref m17, .ref m18, .ref m19])), (m5, .inl (km5, 30, .inl mus)), (m6, .inl (km6, 30, .inl mss)), (m7, .inl (km7, 270, .inl mbs))] sz)) 0 0 (va_A [(m0, .inr (6, [.int ce, .int ms, .int mi, .int mt, .int ma, .int mf, .int mk, .int mp, .ref m1, .ref m2, .ref m3, .ref m4, .ref m5, .ref m6, .ref m7, .ref m8, .ref m9, .ref m10, .ref m11, .ref m12, .ref m13, .ref m14, .ref m15, .ref m16, .ref m17, .ref m18, .ref m19])), (m5, .inl (km5, 30, .inl mus)), (m6, .inl (km6, 30, .inl mss)), (m7, .inl (km7, 270, .inl mbs))] sz) := by
  refine Met.ofW (cc := cX5_poke) (maxL := 4) (ret := (some .int)) (by decide) rfl ?_
  intro p e s m args below meth c s₁ B hml hv
  obtain ⟨rfl, hsz, hP, hK, hD0⟩ := hv
  have hx := B.exec
  have hb := B.bytes
  have hr := B.returns
  have hts := atoms_spec (ws := wsX5_poke) B.pre
  have hown : s.vm.findClass RX5 = some m.cls := findClass_of_methodNamed B.named
  have hlocks := B.notSynchronized
  subst hsz
  have hD := hD0.self (sz := s.heap.size)
  generalize hAe : va_A [(m0, .inr (6, [.int ce, .int ms, .int mi, .int mt, .int ma, .int mf, .int mk, .int mp, .ref m1, .ref m2, .ref m3, .ref m4, .ref m5, .ref m6, .ref m7, .ref m8, .ref m9, .ref m10, .ref m11, .ref m12, .ref m13, .ref m14, .ref m15, .ref m16, .ref m17, .ref m18, .ref m19])), (m5, .inl (km5, 30, .inl mus)), (m6, .inl (km6, 30, .inl mss)), (m7, .inl (km7, 270, .inl mbs))] s.heap.size = A at hD ⊢
  have hA : ∀ q : Nat, s.heap.size ≤ q → A q := fun q h => by rw [← hAe]; exact Or.inr h
  have hS : va_S A s.heap s.heap [] := va_S.rf
  have hl := lv_entry ([.ref m0, .int im, .int i, .int b]) (n := 4) (Nat.le_of_ble_eq_true rfl)
  rw [lg_entry_eq]
  generalize (lg_sl ([.ref m0, .int im, .int i, .int b]) ++ List.replicate (4 - (lg_sl ([.ref m0, .int im, .int i, .int b])).length) Slot.unset).toArray = ls at hl ⊢
  have hl : lv_has ls 4 [(0, .ref m0), (1, .int im), (2, .int i), (3, .int b)] := hl
  refine lv_aload_n hx hb dX5_poke_0 rfl (lv_at hl 0 rfl) ?_
  refine lv_iconst (v := 0) hx hb dX5_poke_1 (by decide) ?_
  refine va_put (D := (dC, dI)) (ci := 6) (v := .int 0) (ty := .int) (C := RX5) (T := TX5) (N := 27) hx hb hts (by decide +kernel) tyX5 tyX5_ok nmX5 hown hK hP hD hS 0 rfl rfl 0 (by decide) (hts (.fieldLink RX5 69 "CobolDebuggerModel" "code" "I") (by decide +kernel)) (fun _ h9 => h9) rfl (by decide +kernel) rfl rfl (Nat.le_of_ble_eq_true rfl) dX5_poke_2 (fun H locs hP hD hS => ?_)
  have hP : va_P (dC, dI) vwCl [(m0, .inr (6, [.int 0, .int ms, .int mi, .int mt, .int ma, .int mf, .int mk, .int mp, .ref m1, .ref m2, .ref m3, .ref m4, .ref m5, .ref m6, .ref m7, .ref m8, .ref m9, .ref m10, .ref m11, .ref m12, .ref m13, .ref m14, .ref m15, .ref m16, .ref m17, .ref m18, .ref m19])), (m5, .inl (km5, 30, .inl mus)), (m6, .inl (km6, 30, .inl mss)), (m7, .inl (km7, 270, .inl mbs))] H := hP
  have hD : va_D A [(m0, .inr (6, [.int 0, .int ms, .int mi, .int mt, .int ma, .int mf, .int mk, .int mp, .ref m1, .ref m2, .ref m3, .ref m4, .ref m5, .ref m6, .ref m7, .ref m8, .ref m9, .ref m10, .ref m11, .ref m12, .ref m13, .ref m14, .ref m15, .ref m16, .ref m17, .ref m18, .ref m19])), (m5, .inl (km5, 30, .inl mus)), (m6, .inl (km6, 30, .inl mss)), (m7, .inl (km7, 270, .inl mbs))] := hD
  refine lv_aload_n hx hb dX5_poke_5 rfl (lv_at hl 0 rfl) ?_
  refine lv_iload_n hx hb dX5_poke_6 rfl (lv_at hl 1 rfl) ?_
  have hPc := hP.sub (ws' := [(m0, .inr (6, [.int 0, .int ms, .int mi, .int mt, .int ma, .int mf, .int mk, .int mp, .ref m1, .ref m2, .ref m3, .ref m4, .ref m5, .ref m6, .ref m7, .ref m8, .ref m9, .ref m10, .ref m11, .ref m12, .ref m13, .ref m14, .ref m15, .ref m16, .ref m17, .ref m18, .ref m19]))]) [0] rfl
  have hKc := hK.sub (tys' := []) [] rfl
  refine va_calli (va_runV (As := [.int im]) (rest := []) ⟨hx, hb, hml, hown, hts⟩ (c_X5_isItem l dC dI m0 m1 m2 m3 m4 m5 m6 m7 m8 m9 m10 m11 m12 m13 m14 m15 m16 m17 m18 m19 0 ms mi mt ma mf mk mp im) (cwV 1 hts gX5_poke_X5_isItem rfl rfl rfl (by decide +kernel) ⟨Nat.le_of_ble_eq_true rfl, Nat.le_of_ble_eq_true rfl⟩) ⟨fun a U g mk q => by obtain ⟨q0, qP, qK⟩ := q; exact ⟨q0, qP, va_K.moved (u := U) (U := U.calling g mk a) (Vm.Alike.refl U.vm) qK⟩, va_recv hKc hPc (ci := 6) (q0 := 0) rfl rfl, fun U hU hW => ⟨rfl, by rw [hU]; exact hPc, va_K.moved hW.alike hKc⟩⟩ rfl rfl hl.1 rfl (lv_room (Nat.le_of_ble_eq_true rfl)) dX5_poke_7 ⟨Nat.zero_le _, Nat.zero_le _⟩) hS (fun q _ h => h.elim) (fun q h => h.elim) (fun r_7 u t H1 locs ht hvm w_7 hB hz1 hk1 hS => ?_)
  try dsimp only at w_7
  have hP := rd_keep hP hk1
  clear hB hk1 hz1 ht hvm u t
  generalize H1 = H at hP hS ⊢
  have w_7 := z01 w_7
  refine lv_if_ne (tgt := 16) hx hb dX5_poke_10 (by decide) (fun c_10 => ?_) (fun c_10 => ?_)
  · have hq0 := i_n0 (fun h => c_10 (w_7.mpr (Or.inl h)))
    have hq1 := n_lt (fun h => c_10 (w_7.mpr (Or.inr h)))
    have him : vp_in im 30 := it_in hit hq0 hq1
    have hsz := it_s hit hq0 hq1
    refine lv_iload_n hx hb dX5_poke_16 rfl (lv_at hl 2 rfl) ?_
    refine lv_if_lt (tgt := 30) hx hb dX5_poke_17 (by decide) (fun c_17 => ?_) (fun c_17 => ?_)
    · refine lv_bipush (v := (-4)) hx hb dX5_poke_30 (by decide) ?_
      exact W.iret (v := (-4)) hx hb hr (fun t ht hW => ⟨⟨(-4), (0, mbs), rfl, id, by rw [ht]; exact hP, hD⟩, hS.F ht⟩) hS.2.2 dX5_poke_32
    · refine lv_iload_n hx hb dX5_poke_20 rfl (lv_at hl 2 rfl) ?_
      refine lv_aload_n hx hb dX5_poke_21 rfl (lv_at hl 0 rfl) ?_
      refine va_get (D := (dC, dI)) (ci := 6) (v := .ref m6) (C := RX5) (T := TX5) (N := 27) hx hb hts (by decide +kernel) hown hK hP 0 rfl rfl 13 (by decide) (hts (.fieldLink RX5 26 "CobolDebuggerModel" "sizes" "[I") (by decide +kernel)) (fun _ h9 => h9) rfl dX5_poke_22 ?_
      refine lv_iload_n hx hb dX5_poke_25 rfl (lv_at hl 1 rfl) ?_
      refine va_iald hx hb hK hP 2 1 rfl rfl (i := im) him dX5_poke_26 ?_
      refine lv_icmp_lt (tgt := 33) hx hb dX5_poke_27 (by decide) (fun c_27 => ?_) (fun c_27 => ?_)
      · refine lv_aload_n hx hb dX5_poke_33 rfl (lv_at hl 0 rfl) ?_
        refine va_get (D := (dC, dI)) (ci := 6) (v := .ref m5) (C := RX5) (T := TX5) (N := 27) hx hb hts (by decide +kernel) hown hK hP 0 rfl rfl 12 (by decide) (hts (.fieldLink RX5 23 "CobolDebuggerModel" "usages" "[I") (by decide +kernel)) (fun _ h9 => h9) rfl dX5_poke_34 ?_
        refine lv_iload_n hx hb dX5_poke_37 rfl (lv_at hl 1 rfl) ?_
        refine va_iald hx hb hK hP 1 0 rfl rfl (i := im) him dX5_poke_38 ?_
        refine lv_iconst (v := 2) hx hb dX5_poke_39 (by decide) ?_
        refine lv_icmp_ne (tgt := 45) hx hb dX5_poke_40 (by decide) (fun c_40 => ?_) (fun c_40 => ?_)
        · refine lv_aload_n hx hb dX5_poke_45 rfl (lv_at hl 0 rfl) ?_
          refine va_get (D := (dC, dI)) (ci := 6) (v := .ref m7) (C := RX5) (T := TX5) (N := 27) hx hb hts (by decide +kernel) hown hK hP 0 rfl rfl 14 (by decide) (hts (.fieldLink RX5 29 "CobolDebuggerModel" "bytes" "[B") (by decide +kernel)) (fun _ h9 => h9) rfl dX5_poke_46 ?_
          refine lv_bipush (v := 9) hx hb dX5_poke_49 (by decide) ?_
          refine lv_iload_n hx hb dX5_poke_51 rfl (lv_at hl 1 rfl) ?_
          refine lv_imul hx hb dX5_poke_52 ?_
          refine lv_iload_n hx hb dX5_poke_53 rfl (lv_at hl 2 rfl) ?_
          refine lv_iadd hx hb dX5_poke_54 ?_
          refine lv_iload_n hx hb dX5_poke_55 rfl (lv_at hl 3 rfl) ?_
          refine va_bast hx hb hK hP hD hS 3 2 rfl rfl (i := (9 * im) + i) (ix_9m him (i_n0 c_17) (by rw [i_lt] at c_27; have := hsz.2; omega)) dX5_poke_56 (fun H locs hP hD hS => ?_)
          have hP : va_P (dC, dI) vwCl [(m0, .inr (6, [.int 0, .int ms, .int mi, .int mt, .int ma, .int mf, .int mk, .int mp, .ref m1, .ref m2, .ref m3, .ref m4, .ref m5, .ref m6, .ref m7, .ref m8, .ref m9, .ref m10, .ref m11, .ref m12, .ref m13, .ref m14, .ref m15, .ref m16, .ref m17, .ref m18, .ref m19])), (m5, .inl (km5, 30, .inl mus)), (m6, .inl (km6, 30, .inl mss)), (m7, .inl (km7, 270, .inl (upd mbs ((9 * im) + i).toNatClampNeg (vp_nar .byte b))))] H := hP
          have hD : va_D A [(m0, .inr (6, [.int 0, .int ms, .int mi, .int mt, .int ma, .int mf, .int mk, .int mp, .ref m1, .ref m2, .ref m3, .ref m4, .ref m5, .ref m6, .ref m7, .ref m8, .ref m9, .ref m10, .ref m11, .ref m12, .ref m13, .ref m14, .ref m15, .ref m16, .ref m17, .ref m18, .ref m19])), (m5, .inl (km5, 30, .inl mus)), (m6, .inl (km6, 30, .inl mss)), (m7, .inl (km7, 270, .inl (upd mbs ((9 * im) + i).toNatClampNeg (vp_nar .byte b))))] := hD
          obtain ⟨g_1, e_g_1⟩ : ∃ y, y = upd mbs ((9 * im) + i).toNatClampNeg (vp_nar .byte b) := ⟨_, rfl⟩
          rw [← e_g_1] at hP hD
          refine lv_iconst (v := 1) hx hb dX5_poke_57 (by decide) ?_
          exact W.iret (v := 1) hx hb hr (fun t ht hW => ⟨⟨1, (0, g_1), rfl, fun h => by rw [e_g_1]; exact fitB_upd h _ _, by rw [ht]; exact hP, hD⟩, hS.F ht⟩) hS.2.2 dX5_poke_58
        · refine lv_iconst (v := 0) hx hb dX5_poke_43 (by decide) ?_
          exact W.iret (v := 0) hx hb hr (fun t ht hW => ⟨⟨0, (0, mbs), rfl, id, by rw [ht]; exact hP, hD⟩, hS.F ht⟩) hS.2.2 dX5_poke_44
      · refine lv_bipush (v := (-4)) hx hb dX5_poke_30 (by decide) ?_
        exact W.iret (v := (-4)) hx hb hr (fun t ht hW => ⟨⟨(-4), (0, mbs), rfl, id, by rw [ht]; exact hP, hD⟩, hS.F ht⟩) hS.2.2 dX5_poke_32
  · refine lv_bipush (v := (-2)) hx hb dX5_poke_13 (by decide) ?_
    exact W.iret (v := (-2)) hx hb hr (fun t ht hW => ⟨⟨(-2), (0, mbs), rfl, id, by rw [ht]; exact hP, hD⟩, hS.F ht⟩) hS.2.2 dX5_poke_15

set_option maxHeartbeats 4000000 in
set_option maxRecDepth 100000 in
theorem g_X5_show (l : Launch) (dC : Nat → ClassId) (dI : Nat → Nat → Nat) (sz : Nat) (m0 m1 m2 m3 m4 m5 m6 m7 m8 m9 m10 m11 m12 m13 m14 m15 m16 m17 m18 m19 : Nat) (km5 km6 km7 : ClassId) (mus mss mbs : Nat → Int32) (ce ms mi mt ma mf mk mp : Int32) (im : Int32) (hit : itI mi mss) : Met l yX5_show wsX5_show ({ frames := 3, cells := 0, slots := 0, locals := 69 }) (va_Pc [.ref m0, .int im] (fun U => U.heap.size = sz ∧ va_P (dC, dI) vwCl [(m0, .inr (6, [.int ce, .int ms, .int mi, .int mt, .int ma, .int mf, .int mk, .int mp, .ref m1, .ref m2, .ref m3, .ref m4, .ref m5, .ref m6, .ref m7, .ref m8, .ref m9, .ref m10, .ref m11, .ref m12, .ref m13, .ref m14, .ref m15, .ref m16, .ref m17, .ref m18, .ref m19])), (m5, .inl (km5, 30, .inl mus)), (m6, .inl (km6, 30, .inl mss)), (m7, .inl (km7, 270, .inl mbs))] U.heap ∧ va_K (dC, dI) vwCl [(km5, .int), (km6, .int), (km7, .byte)] U ∧ va_D (fun _ => True) [(m0, .inr (6, [.int ce, .int ms, .int mi, .int mt, .int ma, .int mf, .int mk, .int mp, .ref m1, .ref m2, .ref m3, .ref m4, .ref m5, .ref m6, .ref m7, .ref m8, .ref m9, .ref m10, .ref m11, .ref m12, .ref m13, .ref m14, .ref m15, .ref m16, .ref m17, .ref m18, .ref m19])), (m5, .inl (km5, 30, .inl mus)), (m6, .inl (km6, 30, .inl mss)), (m7, .inl (km7, 270, .inl mbs))])) (va_Ql (fun (r : Int64) (u : Int32) => True) (fun (u : Int32) (t : State) => va_P (dC, dI) vwCl [(m0, .inr (6, [.int u, .int ms, .int mi, .int mt, .int ma, .int mf, .int mk, .int mp, .ref m1, .ref m2, .ref m3, .ref m4, .ref m5, .ref m6, .ref m7, .ref m8, .ref m9, .ref m10, .ref m11, .ref m12, .ref m13, .ref m14, .ref m15, .ref m16, .ref m17, .ref m18, .ref m19])), (m5, .inl (km5, 30, .inl mus)), (m6, .inl (km6, 30, .inl mss)), (m7, .inl (km7, 270, .inl mbs))] t.heap ∧ va_D (va_A [(m0, .inr (6, [.int ce, .int ms, .int mi, .int mt, .int ma, .int mf, .int mk, .int mp, .ref m1, .ref m2, .ref m3, .ref m4, .ref m5, .ref m6, .ref m7, .ref m8, .ref m9, .ref m10, .ref m11, .ref m12, .ref m13, .ref m14, .ref m15, .ref m16, .ref m17, .ref m18, .ref m19])), (m5, .inl (km5, 30, .inl mus)), (m6, .inl (km6, 30, .inl mss)), (m7, .inl (km7, 270, .inl mbs))] sz) [(m0, .inr (6, [.int u, .int ms, .int mi, .int mt, .int ma, .int mf, .int mk, .int mp, .ref m1, .ref m2, .ref m3, .ref m4, .ref m5, .ref m6, .ref m7, .ref m8, .ref m9, .ref m10, .ref m11, .ref m12, .ref m13, .ref m14, .ref m15, .ref m16, .ref m17, .ref m18, .ref m19])), (m5, .inl (km5, 30, .inl mus)), (m6, .inl (km6, 30, .inl mss)), (m7, .inl (km7, 270, .inl mbs))]) (va_A [(m0, .inr (6, [.int ce, .int ms, .int mi, .int mt, .int ma, .int mf, .int mk, .int mp, .ref m1, .ref m2, .ref m3, .ref m4, .ref m5, .ref m6, .ref m7, .ref m8, .ref m9, .ref m10, .ref m11, .ref m12, .ref m13, .ref m14, .ref m15, .ref m16, .ref m17, .ref m18, .ref m19])), (m5, .inl (km5, 30, .inl mus)), (m6, .inl (km6, 30, .inl mss)), (m7, .inl (km7, 270, .inl mbs))] sz)) 0 0 (va_A [(m0, .inr (6, [.int ce, .int ms, .int mi, .int mt, .int ma, .int mf, .int mk, .int mp, .ref m1, .ref m2, .ref m3, .ref m4, .ref m5, .ref m6, .ref m7, .ref m8, .ref m9, .ref m10, .ref m11, .ref m12, .ref m13, .ref m14, .ref m15, .ref m16, .ref m17, .ref m18, .ref m19])), (m5, .inl (km5, 30, .inl mus)), (m6, .inl (km6, 30, .inl mss)), (m7, .inl (km7, 270, .inl mbs))] sz) := by
  refine Met.ofW (cc := cX5_show) (maxL := 2) (ret := (some .long)) (by decide) rfl ?_
  intro p e s m args below meth c s₁ B hml hv
  obtain ⟨rfl, hsz, hP, hK, hD0⟩ := hv
  have hx := B.exec
  have hb := B.bytes
  have hr := B.returns
  have hts := atoms_spec (ws := wsX5_show) B.pre
  have hown : s.vm.findClass RX5 = some m.cls := findClass_of_methodNamed B.named
  have hlocks := B.notSynchronized
  subst hsz
  have hD := hD0.self (sz := s.heap.size)
  generalize hAe : va_A [(m0, .inr (6, [.int ce, .int ms, .int mi, .int mt, .int ma, .int mf, .int mk, .int mp, .ref m1, .ref m2, .ref m3, .ref m4, .ref m5, .ref m6, .ref m7, .ref m8, .ref m9, .ref m10, .ref m11, .ref m12, .ref m13, .ref m14, .ref m15, .ref m16, .ref m17, .ref m18, .ref m19])), (m5, .inl (km5, 30, .inl mus)), (m6, .inl (km6, 30, .inl mss)), (m7, .inl (km7, 270, .inl mbs))] s.heap.size = A at hD ⊢
  have hA : ∀ q : Nat, s.heap.size ≤ q → A q := fun q h => by rw [← hAe]; exact Or.inr h
  have hS : va_S A s.heap s.heap [] := va_S.rf
  have hl := lv_entry ([.ref m0, .int im]) (n := 2) (Nat.le_of_ble_eq_true rfl)
  rw [lg_entry_eq]
  generalize (lg_sl ([.ref m0, .int im]) ++ List.replicate (2 - (lg_sl ([.ref m0, .int im])).length) Slot.unset).toArray = ls at hl ⊢
  have hl : lv_has ls 2 [(0, .ref m0), (1, .int im)] := hl
  refine lv_aload_n hx hb dX5_show_0 rfl (lv_at hl 0 rfl) ?_
  refine lv_aload_n hx hb dX5_show_1 rfl (lv_at hl 0 rfl) ?_
  refine lv_iload_n hx hb dX5_show_2 rfl (lv_at hl 1 rfl) ?_
  have hPc := hP.sub (ws' := [(m0, .inr (6, [.int ce, .int ms, .int mi, .int mt, .int ma, .int mf, .int mk, .int mp, .ref m1, .ref m2, .ref m3, .ref m4, .ref m5, .ref m6, .ref m7, .ref m8, .ref m9, .ref m10, .ref m11, .ref m12, .ref m13, .ref m14, .ref m15, .ref m16, .ref m17, .ref m18, .ref m19]))]) [0] rfl
  have hKc := hK.sub (tys' := []) [] rfl
  refine va_calli (va_runV (As := [.int im]) (rest := [.ref m0]) ⟨hx, hb, hml, hown, hts⟩ (c_X5_isItem l dC dI m0 m1 m2 m3 m4 m5 m6 m7 m8 m9 m10 m11 m12 m13 m14 m15 m16 m17 m18 m19 ce ms mi mt ma mf mk mp im) (cwV 1 hts gX5_show_X5_isItem rfl rfl rfl (by decide +kernel) ⟨Nat.le_of_ble_eq_true rfl, Nat.le_of_ble_eq_true rfl⟩) ⟨fun a U g mk q => by obtain ⟨q0, qP, qK⟩ := q; exact ⟨q0, qP, va_K.moved (u := U) (U := U.calling g mk a) (Vm.Alike.refl U.vm) qK⟩, va_recv hKc hPc (ci := 6) (q0 := 0) rfl rfl, fun U hU hW => ⟨rfl, by rw [hU]; exact hPc, va_K.moved hW.alike hKc⟩⟩ rfl rfl hl.1 rfl (lv_room (Nat.le_of_ble_eq_true rfl)) dX5_show_3 ⟨Nat.zero_le _, Nat.zero_le _⟩) hS (fun q _ h => h.elim) (fun q h => h.elim) (fun r_3 u t H1 locs ht hvm w_3 hB hz1 hk1 hS => ?_)
  try dsimp only at w_3
  have hP := rd_keep hP hk1
  clear hB hk1 hz1 ht hvm u t
  generalize H1 = H at hP hS ⊢
  have w_3 := z01 w_3
  refine lv_if_ne (tgt := 13) hx hb dX5_show_6 (by decide) (fun c_6 => ?_) (fun c_6 => ?_)
  · have hq0 := i_n0 (fun h => c_6 (w_3.mpr (Or.inl h)))
    have hq1 := n_lt (fun h => c_6 (w_3.mpr (Or.inr h)))
    have him : vp_in im 30 := it_in hit hq0 hq1
    have hsz := it_s hit hq0 hq1
    refine lv_aload_n hx hb dX5_show_13 rfl (lv_at hl 0 rfl) ?_
    refine lv_iload_n hx hb dX5_show_14 rfl (lv_at hl 1 rfl) ?_
    have hPc := hP.sub (ws' := [(m0, .inr (6, [.int ce, .int ms, .int mi, .int mt, .int ma, .int mf, .int mk, .int mp, .ref m1, .ref m2, .ref m3, .ref m4, .ref m5, .ref m6, .ref m7, .ref m8, .ref m9, .ref m10, .ref m11, .ref m12, .ref m13, .ref m14, .ref m15, .ref m16, .ref m17, .ref m18, .ref m19])), (m5, .inl (km5, 30, .inl mus)), (m6, .inl (km6, 30, .inl mss)), (m7, .inl (km7, 270, .inl mbs))]) [0, 1, 2, 3] rfl
    have hKc := hK.sub (tys' := [(km5, .int), (km6, .int), (km7, .byte)]) [0, 1, 2] rfl
    refine va_calli (va_runV (As := [.int im]) (rest := [.ref m0]) ⟨hx, hb, hml, hown, hts⟩ (c_X5_isBad l dC dI m0 m1 m2 m3 m4 m5 m6 m7 m8 m9 m10 m11 m12 m13 m14 m15 m16 m17 m18 m19 km5 km6 km7 mus mss mbs ce ms mi mt ma mf mk mp im (him) (hsz.1) (hsz.2)) (cwV 1 hts gX5_show_X5_isBad rfl rfl rfl (by decide +kernel) ⟨Nat.le_of_ble_eq_true rfl, Nat.le_of_ble_eq_true rfl⟩) ⟨fun a U g mk q => by obtain ⟨q0, qP, qK⟩ := q; exact ⟨q0, qP, va_K.moved (u := U) (U := U.calling g mk a) (Vm.Alike.refl U.vm) qK⟩, va_recv hKc hPc (ci := 6) (q0 := 0) rfl rfl, fun U hU hW => ⟨rfl, by rw [hU]; exact hPc, va_K.moved hW.alike hKc⟩⟩ rfl rfl hl.1 rfl (lv_room (Nat.le_of_ble_eq_true rfl)) dX5_show_15 ⟨Nat.zero_le _, Nat.zero_le _⟩) hS (fun q _ h => h.elim) (fun q h => h.elim) (fun r_15 u t H1 locs ht hvm w_15 hB hz1 hk1 hS => ?_)
    try dsimp only at w_15
    have hP := rd_keep hP hk1
    clear hB hk1 hz1 ht hvm u t
    generalize H1 = H at hP hS ⊢
    refine lv_if_eq (tgt := 25) hx hb dX5_show_18 (by decide) (fun c_18 => ?_) (fun c_18 => ?_)
    · refine lv_iconst (v := 0) hx hb dX5_show_25 (by decide) ?_
      refine va_put (D := (dC, dI)) (ci := 6) (v := .int 0) (ty := .int) (C := RX5) (T := TX5) (N := 27) hx hb hts (by decide +kernel) tyX5 tyX5_ok nmX5 hown hK hP hD hS 0 rfl rfl 0 (by decide) (hts (.fieldLink RX5 69 "CobolDebuggerModel" "code" "I") (by decide +kernel)) (fun _ h9 => h9) rfl (by decide +kernel) rfl rfl (Nat.le_of_ble_eq_true rfl) dX5_show_26 (fun H locs hP hD hS => ?_)
      have hP : va_P (dC, dI) vwCl [(m0, .inr (6, [.int 0, .int ms, .int mi, .int mt, .int ma, .int mf, .int mk, .int mp, .ref m1, .ref m2, .ref m3, .ref m4, .ref m5, .ref m6, .ref m7, .ref m8, .ref m9, .ref m10, .ref m11, .ref m12, .ref m13, .ref m14, .ref m15, .ref m16, .ref m17, .ref m18, .ref m19])), (m5, .inl (km5, 30, .inl mus)), (m6, .inl (km6, 30, .inl mss)), (m7, .inl (km7, 270, .inl mbs))] H := hP
      have hD : va_D A [(m0, .inr (6, [.int 0, .int ms, .int mi, .int mt, .int ma, .int mf, .int mk, .int mp, .ref m1, .ref m2, .ref m3, .ref m4, .ref m5, .ref m6, .ref m7, .ref m8, .ref m9, .ref m10, .ref m11, .ref m12, .ref m13, .ref m14, .ref m15, .ref m16, .ref m17, .ref m18, .ref m19])), (m5, .inl (km5, 30, .inl mus)), (m6, .inl (km6, 30, .inl mss)), (m7, .inl (km7, 270, .inl mbs))] := hD
      refine lv_aload_n hx hb dX5_show_29 rfl (lv_at hl 0 rfl) ?_
      refine va_get (D := (dC, dI)) (ci := 6) (v := .int 0) (C := RX5) (T := TX5) (N := 27) hx hb hts (by decide +kernel) hown hK hP 0 rfl rfl 0 (by decide) (hts (.fieldLink RX5 69 "CobolDebuggerModel" "code" "I") (by decide +kernel)) (fun _ h9 => h9) rfl dX5_show_30 ?_
      refine lv_if_le (tgt := 40) hx hb dX5_show_33 (by decide) (fun c_33 => ?_) (fun c_33 => ?_)
      · refine lv_aload_n hx hb dX5_show_40 rfl (lv_at hl 0 rfl) ?_
        refine lv_iload_n hx hb dX5_show_41 rfl (lv_at hl 1 rfl) ?_
        have hPc := hP.sub (ws' := [(m0, .inr (6, [.int 0, .int ms, .int mi, .int mt, .int ma, .int mf, .int mk, .int mp, .ref m1, .ref m2, .ref m3, .ref m4, .ref m5, .ref m6, .ref m7, .ref m8, .ref m9, .ref m10, .ref m11, .ref m12, .ref m13, .ref m14, .ref m15, .ref m16, .ref m17, .ref m18, .ref m19])), (m5, .inl (km5, 30, .inl mus)), (m6, .inl (km6, 30, .inl mss)), (m7, .inl (km7, 270, .inl mbs))]) [0, 1, 2, 3] rfl
        have hKc := hK.sub (tys' := [(km5, .int), (km6, .int), (km7, .byte)]) [0, 1, 2] rfl
        refine va_calll (va_runV (As := [.int im]) (rest := []) ⟨hx, hb, hml, hown, hts⟩ (c_X5_says l dC dI m0 m1 m2 m3 m4 m5 m6 m7 m8 m9 m10 m11 m12 m13 m14 m15 m16 m17 m18 m19 km5 km6 km7 mus mss mbs 0 ms mi mt ma mf mk mp im (him) (hsz.1) (hsz.2)) (cwV 1 hts gX5_show_X5_says rfl rfl rfl (by decide +kernel) ⟨Nat.le_of_ble_eq_true rfl, Nat.le_of_ble_eq_true rfl⟩) ⟨fun a U g mk q => by obtain ⟨q0, qP, qK⟩ := q; exact ⟨q0, qP, va_K.moved (u := U) (U := U.calling g mk a) (Vm.Alike.refl U.vm) qK⟩, va_recv hKc hPc (ci := 6) (q0 := 0) rfl rfl, fun U hU hW => ⟨rfl, by rw [hU]; exact hPc, va_K.moved hW.alike hKc⟩⟩ rfl rfl hl.1 rfl (lv_room (Nat.le_of_ble_eq_true rfl)) dX5_show_42 ⟨Nat.zero_le _, Nat.zero_le _⟩) hS (fun q _ h => h.elim) (fun q h => h.elim) (fun r_42 u t H1 locs ht hvm w_42 hB hz1 hk1 hS => ?_)
        try dsimp only at w_42
        have hP := rd_keep hP hk1
        clear hB hk1 hz1 ht hvm u t
        generalize H1 = H at hP hS ⊢
        exact W.lret (v := r_42) hx hb hr (fun t ht hW => ⟨⟨r_42, 0, rfl, trivial, by rw [ht]; exact hP, hD⟩, hS.F ht⟩) hS.2.2 dX5_show_45
      · exact absurd c_33 (by decide)
    · refine lv_iconst (v := 2) hx hb dX5_show_21 (by decide) ?_
      refine lv_goto (tgt := 26) hx hb dX5_show_22 (by decide) ?_
      refine va_put (D := (dC, dI)) (ci := 6) (v := .int 2) (ty := .int) (C := RX5) (T := TX5) (N := 27) hx hb hts (by decide +kernel) tyX5 tyX5_ok nmX5 hown hK hP hD hS 0 rfl rfl 0 (by decide) (hts (.fieldLink RX5 69 "CobolDebuggerModel" "code" "I") (by decide +kernel)) (fun _ h9 => h9) rfl (by decide +kernel) rfl rfl (Nat.le_of_ble_eq_true rfl) dX5_show_26 (fun H locs hP hD hS => ?_)
      have hP : va_P (dC, dI) vwCl [(m0, .inr (6, [.int 2, .int ms, .int mi, .int mt, .int ma, .int mf, .int mk, .int mp, .ref m1, .ref m2, .ref m3, .ref m4, .ref m5, .ref m6, .ref m7, .ref m8, .ref m9, .ref m10, .ref m11, .ref m12, .ref m13, .ref m14, .ref m15, .ref m16, .ref m17, .ref m18, .ref m19])), (m5, .inl (km5, 30, .inl mus)), (m6, .inl (km6, 30, .inl mss)), (m7, .inl (km7, 270, .inl mbs))] H := hP
      have hD : va_D A [(m0, .inr (6, [.int 2, .int ms, .int mi, .int mt, .int ma, .int mf, .int mk, .int mp, .ref m1, .ref m2, .ref m3, .ref m4, .ref m5, .ref m6, .ref m7, .ref m8, .ref m9, .ref m10, .ref m11, .ref m12, .ref m13, .ref m14, .ref m15, .ref m16, .ref m17, .ref m18, .ref m19])), (m5, .inl (km5, 30, .inl mus)), (m6, .inl (km6, 30, .inl mss)), (m7, .inl (km7, 270, .inl mbs))] := hD
      refine lv_aload_n hx hb dX5_show_29 rfl (lv_at hl 0 rfl) ?_
      refine va_get (D := (dC, dI)) (ci := 6) (v := .int 2) (C := RX5) (T := TX5) (N := 27) hx hb hts (by decide +kernel) hown hK hP 0 rfl rfl 0 (by decide) (hts (.fieldLink RX5 69 "CobolDebuggerModel" "code" "I") (by decide +kernel)) (fun _ h9 => h9) rfl dX5_show_30 ?_
      refine lv_if_le (tgt := 40) hx hb dX5_show_33 (by decide) (fun c_33 => ?_) (fun c_33 => ?_)
      · exact absurd c_33 (by decide)
      · refine lv_lconst (v := 0) hx hb dX5_show_36 (by decide) ?_
        refine lv_goto (tgt := 45) hx hb dX5_show_37 (by decide) ?_
        exact W.lret (v := 0) hx hb hr (fun t ht hW => ⟨⟨0, 2, rfl, trivial, by rw [ht]; exact hP, hD⟩, hS.F ht⟩) hS.2.2 dX5_show_45
  · refine lv_iconst (v := 1) hx hb dX5_show_9 (by decide) ?_
    refine lv_goto (tgt := 26) hx hb dX5_show_10 (by decide) ?_
    refine va_put (D := (dC, dI)) (ci := 6) (v := .int 1) (ty := .int) (C := RX5) (T := TX5) (N := 27) hx hb hts (by decide +kernel) tyX5 tyX5_ok nmX5 hown hK hP hD hS 0 rfl rfl 0 (by decide) (hts (.fieldLink RX5 69 "CobolDebuggerModel" "code" "I") (by decide +kernel)) (fun _ h9 => h9) rfl (by decide +kernel) rfl rfl (Nat.le_of_ble_eq_true rfl) dX5_show_26 (fun H locs hP hD hS => ?_)
    have hP : va_P (dC, dI) vwCl [(m0, .inr (6, [.int 1, .int ms, .int mi, .int mt, .int ma, .int mf, .int mk, .int mp, .ref m1, .ref m2, .ref m3, .ref m4, .ref m5, .ref m6, .ref m7, .ref m8, .ref m9, .ref m10, .ref m11, .ref m12, .ref m13, .ref m14, .ref m15, .ref m16, .ref m17, .ref m18, .ref m19])), (m5, .inl (km5, 30, .inl mus)), (m6, .inl (km6, 30, .inl mss)), (m7, .inl (km7, 270, .inl mbs))] H := hP
    have hD : va_D A [(m0, .inr (6, [.int 1, .int ms, .int mi, .int mt, .int ma, .int mf, .int mk, .int mp, .ref m1, .ref m2, .ref m3, .ref m4, .ref m5, .ref m6, .ref m7, .ref m8, .ref m9, .ref m10, .ref m11, .ref m12, .ref m13, .ref m14, .ref m15, .ref m16, .ref m17, .ref m18, .ref m19])), (m5, .inl (km5, 30, .inl mus)), (m6, .inl (km6, 30, .inl mss)), (m7, .inl (km7, 270, .inl mbs))] := hD
    refine lv_aload_n hx hb dX5_show_29 rfl (lv_at hl 0 rfl) ?_
    refine va_get (D := (dC, dI)) (ci := 6) (v := .int 1) (C := RX5) (T := TX5) (N := 27) hx hb hts (by decide +kernel) hown hK hP 0 rfl rfl 0 (by decide) (hts (.fieldLink RX5 69 "CobolDebuggerModel" "code" "I") (by decide +kernel)) (fun _ h9 => h9) rfl dX5_show_30 ?_
    refine lv_if_le (tgt := 40) hx hb dX5_show_33 (by decide) (fun c_33 => ?_) (fun c_33 => ?_)
    · exact absurd c_33 (by decide)
    · refine lv_lconst (v := 0) hx hb dX5_show_36 (by decide) ?_
      refine lv_goto (tgt := 45) hx hb dX5_show_37 (by decide) ?_
      exact W.lret (v := 0) hx hb hr (fun t ht hW => ⟨⟨0, 1, rfl, trivial, by rw [ht]; exact hP, hD⟩, hS.F ht⟩) hS.2.2 dX5_show_45

set_option maxHeartbeats 4000000 in
set_option maxRecDepth 100000 in
theorem g_X5_octet (l : Launch) (dC : Nat → ClassId) (dI : Nat → Nat → Nat) (sz : Nat) (m0 m1 m2 m3 m4 m5 m6 m7 m8 m9 m10 m11 m12 m13 m14 m15 m16 m17 m18 m19 : Nat) (km6 km7 : ClassId) (mss mbs : Nat → Int32) (ce ms mi mt ma mf mk mp : Int32) (im : Int32) (i : Int32) (hit : itI mi mss) (hfb : fitB mbs) : Met l yX5_octet wsX5_octet ({ frames := 1, cells := 0, slots := 0, locals := 21 }) (va_Pc [.ref m0, .int im, .int i] (fun U => U.heap.size = sz ∧ va_P (dC, dI) vwCl [(m0, .inr (6, [.int ce, .int ms, .int mi, .int mt, .int ma, .int mf, .int mk, .int mp, .ref m1, .ref m2, .ref m3, .ref m4, .ref m5, .ref m6, .ref m7, .ref m8, .ref m9, .ref m10, .ref m11, .ref m12, .ref m13, .ref m14, .ref m15, .ref m16, .ref m17, .ref m18, .ref m19])), (m6, .inl (km6, 30, .inl mss)), (m7, .inl (km7, 270, .inl mbs))] U.heap ∧ va_K (dC, dI) vwCl [(km6, .int), (km7, .byte)] U ∧ va_D (fun _ => True) [(m0, .inr (6, [.int ce, .int ms, .int mi, .int mt, .int ma, .int mf, .int mk, .int mp, .ref m1, .ref m2, .ref m3, .ref m4, .ref m5, .ref m6, .ref m7, .ref m8, .ref m9, .ref m10, .ref m11, .ref m12, .ref m13, .ref m14, .ref m15, .ref m16, .ref m17, .ref m18, .ref m19])), (m6, .inl (km6, 30, .inl mss)), (m7, .inl (km7, 270, .inl mbs))])) (va_Qi (fun (r : Int32) (u : Int32) => True) (fun (u : Int32) (t : State) => va_P (dC, dI) vwCl [(m0, .inr (6, [.int u, .int ms, .int mi, .int mt, .int ma, .int mf, .int mk, .int mp, .ref m1, .ref m2, .ref m3, .ref m4, .ref m5, .ref m6, .ref m7, .ref m8, .ref m9, .ref m10, .ref m11, .ref m12, .ref m13, .ref m14, .ref m15, .ref m16, .ref m17, .ref m18, .ref m19])), (m6, .inl (km6, 30, .inl mss)), (m7, .inl (km7, 270, .inl mbs))] t.heap ∧ va_D (va_A [(m0, .inr (6, [.int ce, .int ms, .int mi, .int mt, .int ma, .int mf, .int mk, .int mp, .ref m1, .ref m2, .ref m3, .ref m4, .ref m5, .ref m6, .ref m7, .ref m8, .ref m9, .ref m10, .ref m11, .ref m12, .ref m13, .ref m14, .ref m15, .ref m16, .ref m17, .ref m18, .ref m19])), (m6, .inl (km6, 30, .inl mss)), (m7, .inl (km7, 270, .inl mbs))] sz) [(m0, .inr (6, [.int u, .int ms, .int mi, .int mt, .int ma, .int mf, .int mk, .int mp, .ref m1, .ref m2, .ref m3, .ref m4, .ref m5, .ref m6, .ref m7, .ref m8, .ref m9, .ref m10, .ref m11, .ref m12, .ref m13, .ref m14, .ref m15, .ref m16, .ref m17, .ref m18, .ref m19])), (m6, .inl (km6, 30, .inl mss)), (m7, .inl (km7, 270, .inl mbs))]) (va_A [(m0, .inr (6, [.int ce, .int ms, .int mi, .int mt, .int ma, .int mf, .int mk, .int mp, .ref m1, .ref m2, .ref m3, .ref m4, .ref m5, .ref m6, .ref m7, .ref m8, .ref m9, .ref m10, .ref m11, .ref m12, .ref m13, .ref m14, .ref m15, .ref m16, .ref m17, .ref m18, .ref m19])), (m6, .inl (km6, 30, .inl mss)), (m7, .inl (km7, 270, .inl mbs))] sz)) 0 0 (va_A [(m0, .inr (6, [.int ce, .int ms, .int mi, .int mt, .int ma, .int mf, .int mk, .int mp, .ref m1, .ref m2, .ref m3, .ref m4, .ref m5, .ref m6, .ref m7, .ref m8, .ref m9, .ref m10, .ref m11, .ref m12, .ref m13, .ref m14, .ref m15, .ref m16, .ref m17, .ref m18, .ref m19])), (m6, .inl (km6, 30, .inl mss)), (m7, .inl (km7, 270, .inl mbs))] sz) := by
  refine Met.ofW (cc := cX5_octet) (maxL := 4) (ret := (some .byte)) (by decide) rfl ?_
  intro p e s m args below meth c s₁ B hml hv
  obtain ⟨rfl, hsz, hP, hK, hD0⟩ := hv
  have hx := B.exec
  have hb := B.bytes
  have hr := B.returns
  have hts := atoms_spec (ws := wsX5_octet) B.pre
  have hown : s.vm.findClass RX5 = some m.cls := findClass_of_methodNamed B.named
  have hlocks := B.notSynchronized
  subst hsz
  have hD := hD0.self (sz := s.heap.size)
  generalize hAe : va_A [(m0, .inr (6, [.int ce, .int ms, .int mi, .int mt, .int ma, .int mf, .int mk, .int mp, .ref m1, .ref m2, .ref m3, .ref m4, .ref m5, .ref m6, .ref m7, .ref m8, .ref m9, .ref m10, .ref m11, .ref m12, .ref m13, .ref m14, .ref m15, .ref m16, .ref m17, .ref m18, .ref m19])), (m6, .inl (km6, 30, .inl mss)), (m7, .inl (km7, 270, .inl mbs))] s.heap.size = A at hD ⊢
  have hA : ∀ q : Nat, s.heap.size ≤ q → A q := fun q h => by rw [← hAe]; exact Or.inr h
  have hS : va_S A s.heap s.heap [] := va_S.rf
  have hl := lv_entry ([.ref m0, .int im, .int i]) (n := 4) (Nat.le_of_ble_eq_true rfl)
  rw [lg_entry_eq]
  generalize (lg_sl ([.ref m0, .int im, .int i]) ++ List.replicate (4 - (lg_sl ([.ref m0, .int im, .int i])).length) Slot.unset).toArray = ls at hl ⊢
  have hl : lv_has ls 4 [(0, .ref m0), (1, .int im), (2, .int i)] := hl
  refine lv_aload_n hx hb dX5_octet_0 rfl (lv_at hl 0 rfl) ?_
  refine lv_iload_n hx hb dX5_octet_1 rfl (lv_at hl 1 rfl) ?_
  have hPc := hP.sub (ws' := [(m0, .inr (6, [.int ce, .int ms, .int mi, .int mt, .int ma, .int mf, .int mk, .int mp, .ref m1, .ref m2, .ref m3, .ref m4, .ref m5, .ref m6, .ref m7, .ref m8, .ref m9, .ref m10, .ref m11, .ref m12, .ref m13, .ref m14, .ref m15, .ref m16, .ref m17, .ref m18, .ref m19]))]) [0] rfl
  have hKc := hK.sub (tys' := []) [] rfl
  refine va_calli (va_runV (As := [.int im]) (rest := []) ⟨hx, hb, hml, hown, hts⟩ (c_X5_isItem l dC dI m0 m1 m2 m3 m4 m5 m6 m7 m8 m9 m10 m11 m12 m13 m14 m15 m16 m17 m18 m19 ce ms mi mt ma mf mk mp im) (cwV 1 hts gX5_octet_X5_isItem rfl rfl rfl (by decide +kernel) ⟨Nat.le_of_ble_eq_true rfl, Nat.le_of_ble_eq_true rfl⟩) ⟨fun a U g mk q => by obtain ⟨q0, qP, qK⟩ := q; exact ⟨q0, qP, va_K.moved (u := U) (U := U.calling g mk a) (Vm.Alike.refl U.vm) qK⟩, va_recv hKc hPc (ci := 6) (q0 := 0) rfl rfl, fun U hU hW => ⟨rfl, by rw [hU]; exact hPc, va_K.moved hW.alike hKc⟩⟩ rfl rfl hl.1 rfl (lv_room (Nat.le_of_ble_eq_true rfl)) dX5_octet_2 ⟨Nat.zero_le _, Nat.zero_le _⟩) hS (fun q _ h => h.elim) (fun q h => h.elim) (fun r_2 u t H1 locs ht hvm w_2 hB hz1 hk1 hS => ?_)
  try dsimp only at w_2
  have hP := rd_keep hP hk1
  clear hB hk1 hz1 ht hvm u t
  generalize H1 = H at hP hS ⊢
  have w_2 := z01 w_2
  refine lv_if_eq (tgt := 26) hx hb dX5_octet_5 (by decide) (fun c_5 => ?_) (fun c_5 => ?_)
  · refine lv_iconst (v := 0) hx hb dX5_octet_26 (by decide) ?_
    refine lv_istore_n (lv' := [(3, .int 0), (0, .ref m0), (1, .int im), (2, .int i)]) hx hb dX5_octet_27 rfl hl (by decide) rfl (fun ls hl => ?_)
    refine lv_aload_n hx hb dX5_octet_28 rfl (lv_at hl 1 rfl) ?_
    refine lv_iload_n hx hb dX5_octet_29 rfl (lv_at hl 0 rfl) ?_
    refine lv_if_eq (tgt := 37) hx hb dX5_octet_30 (by decide) (fun c_30 => ?_) (fun c_30 => ?_)
    · refine lv_iconst (v := 1) hx hb dX5_octet_37 (by decide) ?_
      refine va_put (D := (dC, dI)) (ci := 6) (v := .int 1) (ty := .int) (C := RX5) (T := TX5) (N := 27) hx hb hts (by decide +kernel) tyX5 tyX5_ok nmX5 hown hK hP hD hS 0 rfl rfl 0 (by decide) (hts (.fieldLink RX5 69 "CobolDebuggerModel" "code" "I") (by decide +kernel)) (fun _ h9 => h9) rfl (by decide +kernel) rfl rfl (Nat.le_of_ble_eq_true rfl) dX5_octet_38 (fun H locs hP hD hS => ?_)
      have hP : va_P (dC, dI) vwCl [(m0, .inr (6, [.int 1, .int ms, .int mi, .int mt, .int ma, .int mf, .int mk, .int mp, .ref m1, .ref m2, .ref m3, .ref m4, .ref m5, .ref m6, .ref m7, .ref m8, .ref m9, .ref m10, .ref m11, .ref m12, .ref m13, .ref m14, .ref m15, .ref m16, .ref m17, .ref m18, .ref m19])), (m6, .inl (km6, 30, .inl mss)), (m7, .inl (km7, 270, .inl mbs))] H := hP
      have hD : va_D A [(m0, .inr (6, [.int 1, .int ms, .int mi, .int mt, .int ma, .int mf, .int mk, .int mp, .ref m1, .ref m2, .ref m3, .ref m4, .ref m5, .ref m6, .ref m7, .ref m8, .ref m9, .ref m10, .ref m11, .ref m12, .ref m13, .ref m14, .ref m15, .ref m16, .ref m17, .ref m18, .ref m19])), (m6, .inl (km6, 30, .inl mss)), (m7, .inl (km7, 270, .inl mbs))] := hD
      refine lv_iload_n hx hb dX5_octet_41 rfl (lv_at hl 0 rfl) ?_
      refine lv_if_eq (tgt := 59) hx hb dX5_octet_42 (by decide) (fun c_42 => ?_) (fun c_42 => ?_)
      · refine lv_iconst (v := 0) hx hb dX5_octet_59 (by decide) ?_
        exact W.zret (v := 0) hx hb hr (by decide) (fun t ht hW => ⟨⟨0, 1, rfl, trivial, by rw [ht]; exact hP, hD⟩, hS.F ht⟩) hS.2.2 dX5_octet_60
      · exact absurd c_42 (by decide)
    · exact absurd c_30 (by decide)
  · have hq0 := i_n0 (fun h => c_5 (w_2.mpr (Or.inl h)))
    have hq1 := n_lt (fun h => c_5 (w_2.mpr (Or.inr h)))
    have him : vp_in im 30 := it_in hit hq0 hq1
    have hsz := it_s hit hq0 hq1
    refine lv_iload_n hx hb dX5_octet_8 rfl (lv_at hl 2 rfl) ?_
    refine lv_if_lt (tgt := 26) hx hb dX5_octet_9 (by decide) (fun c_9 => ?_) (fun c_9 => ?_)
    · refine lv_iconst (v := 0) hx hb dX5_octet_26 (by decide) ?_
      refine lv_istore_n (lv' := [(3, .int 0), (0, .ref m0), (1, .int im), (2, .int i)]) hx hb dX5_octet_27 rfl hl (by decide) rfl (fun ls hl => ?_)
      refine lv_aload_n hx hb dX5_octet_28 rfl (lv_at hl 1 rfl) ?_
      refine lv_iload_n hx hb dX5_octet_29 rfl (lv_at hl 0 rfl) ?_
      refine lv_if_eq (tgt := 37) hx hb dX5_octet_30 (by decide) (fun c_30 => ?_) (fun c_30 => ?_)
      · refine lv_iconst (v := 1) hx hb dX5_octet_37 (by decide) ?_
        refine va_put (D := (dC, dI)) (ci := 6) (v := .int 1) (ty := .int) (C := RX5) (T := TX5) (N := 27) hx hb hts (by decide +kernel) tyX5 tyX5_ok nmX5 hown hK hP hD hS 0 rfl rfl 0 (by decide) (hts (.fieldLink RX5 69 "CobolDebuggerModel" "code" "I") (by decide +kernel)) (fun _ h9 => h9) rfl (by decide +kernel) rfl rfl (Nat.le_of_ble_eq_true rfl) dX5_octet_38 (fun H locs hP hD hS => ?_)
        have hP : va_P (dC, dI) vwCl [(m0, .inr (6, [.int 1, .int ms, .int mi, .int mt, .int ma, .int mf, .int mk, .int mp, .ref m1, .ref m2, .ref m3, .ref m4, .ref m5, .ref m6, .ref m7, .ref m8, .ref m9, .ref m10, .ref m11, .ref m12, .ref m13, .ref m14, .ref m15, .ref m16, .ref m17, .ref m18, .ref m19])), (m6, .inl (km6, 30, .inl mss)), (m7, .inl (km7, 270, .inl mbs))] H := hP
        have hD : va_D A [(m0, .inr (6, [.int 1, .int ms, .int mi, .int mt, .int ma, .int mf, .int mk, .int mp, .ref m1, .ref m2, .ref m3, .ref m4, .ref m5, .ref m6, .ref m7, .ref m8, .ref m9, .ref m10, .ref m11, .ref m12, .ref m13, .ref m14, .ref m15, .ref m16, .ref m17, .ref m18, .ref m19])), (m6, .inl (km6, 30, .inl mss)), (m7, .inl (km7, 270, .inl mbs))] := hD
        refine lv_iload_n hx hb dX5_octet_41 rfl (lv_at hl 0 rfl) ?_
        refine lv_if_eq (tgt := 59) hx hb dX5_octet_42 (by decide) (fun c_42 => ?_) (fun c_42 => ?_)
        · refine lv_iconst (v := 0) hx hb dX5_octet_59 (by decide) ?_
          exact W.zret (v := 0) hx hb hr (by decide) (fun t ht hW => ⟨⟨0, 1, rfl, trivial, by rw [ht]; exact hP, hD⟩, hS.F ht⟩) hS.2.2 dX5_octet_60
        · exact absurd c_42 (by decide)
      · exact absurd c_30 (by decide)
    · refine lv_iload_n hx hb dX5_octet_12 rfl (lv_at hl 2 rfl) ?_
      refine lv_aload_n hx hb dX5_octet_13 rfl (lv_at hl 0 rfl) ?_
      refine va_get (D := (dC, dI)) (ci := 6) (v := .ref m6) (C := RX5) (T := TX5) (N := 27) hx hb hts (by decide +kernel) hown hK hP 0 rfl rfl 13 (by decide) (hts (.fieldLink RX5 26 "CobolDebuggerModel" "sizes" "[I") (by decide +kernel)) (fun _ h9 => h9) rfl dX5_octet_14 ?_
      refine lv_iload_n hx hb dX5_octet_17 rfl (lv_at hl 1 rfl) ?_
      refine va_iald hx hb hK hP 1 0 rfl rfl (i := im) him dX5_octet_18 ?_
      refine lv_icmp_ge (tgt := 26) hx hb dX5_octet_19 (by decide) (fun c_19 => ?_) (fun c_19 => ?_)
      · refine lv_iconst (v := 0) hx hb dX5_octet_26 (by decide) ?_
        refine lv_istore_n (lv' := [(3, .int 0), (0, .ref m0), (1, .int im), (2, .int i)]) hx hb dX5_octet_27 rfl hl (by decide) rfl (fun ls hl => ?_)
        refine lv_aload_n hx hb dX5_octet_28 rfl (lv_at hl 1 rfl) ?_
        refine lv_iload_n hx hb dX5_octet_29 rfl (lv_at hl 0 rfl) ?_
        refine lv_if_eq (tgt := 37) hx hb dX5_octet_30 (by decide) (fun c_30 => ?_) (fun c_30 => ?_)
        · refine lv_iconst (v := 1) hx hb dX5_octet_37 (by decide) ?_
          refine va_put (D := (dC, dI)) (ci := 6) (v := .int 1) (ty := .int) (C := RX5) (T := TX5) (N := 27) hx hb hts (by decide +kernel) tyX5 tyX5_ok nmX5 hown hK hP hD hS 0 rfl rfl 0 (by decide) (hts (.fieldLink RX5 69 "CobolDebuggerModel" "code" "I") (by decide +kernel)) (fun _ h9 => h9) rfl (by decide +kernel) rfl rfl (Nat.le_of_ble_eq_true rfl) dX5_octet_38 (fun H locs hP hD hS => ?_)
          have hP : va_P (dC, dI) vwCl [(m0, .inr (6, [.int 1, .int ms, .int mi, .int mt, .int ma, .int mf, .int mk, .int mp, .ref m1, .ref m2, .ref m3, .ref m4, .ref m5, .ref m6, .ref m7, .ref m8, .ref m9, .ref m10, .ref m11, .ref m12, .ref m13, .ref m14, .ref m15, .ref m16, .ref m17, .ref m18, .ref m19])), (m6, .inl (km6, 30, .inl mss)), (m7, .inl (km7, 270, .inl mbs))] H := hP
          have hD : va_D A [(m0, .inr (6, [.int 1, .int ms, .int mi, .int mt, .int ma, .int mf, .int mk, .int mp, .ref m1, .ref m2, .ref m3, .ref m4, .ref m5, .ref m6, .ref m7, .ref m8, .ref m9, .ref m10, .ref m11, .ref m12, .ref m13, .ref m14, .ref m15, .ref m16, .ref m17, .ref m18, .ref m19])), (m6, .inl (km6, 30, .inl mss)), (m7, .inl (km7, 270, .inl mbs))] := hD
          refine lv_iload_n hx hb dX5_octet_41 rfl (lv_at hl 0 rfl) ?_
          refine lv_if_eq (tgt := 59) hx hb dX5_octet_42 (by decide) (fun c_42 => ?_) (fun c_42 => ?_)
          · refine lv_iconst (v := 0) hx hb dX5_octet_59 (by decide) ?_
            exact W.zret (v := 0) hx hb hr (by decide) (fun t ht hW => ⟨⟨0, 1, rfl, trivial, by rw [ht]; exact hP, hD⟩, hS.F ht⟩) hS.2.2 dX5_octet_60
          · exact absurd c_42 (by decide)
        · exact absurd c_30 (by decide)
      · refine lv_iconst (v := 1) hx hb dX5_octet_22 (by decide) ?_
        refine lv_goto (tgt := 27) hx hb dX5_octet_23 (by decide) ?_
        refine lv_istore_n (lv' := [(3, .int 1), (0, .ref m0), (1, .int im), (2, .int i)]) hx hb dX5_octet_27 rfl hl (by decide) rfl (fun ls hl => ?_)
        refine lv_aload_n hx hb dX5_octet_28 rfl (lv_at hl 1 rfl) ?_
        refine lv_iload_n hx hb dX5_octet_29 rfl (lv_at hl 0 rfl) ?_
        refine lv_if_eq (tgt := 37) hx hb dX5_octet_30 (by decide) (fun c_30 => ?_) (fun c_30 => ?_)
        · exact absurd c_30 (by decide)
        · refine lv_iconst (v := 0) hx hb dX5_octet_33 (by decide) ?_
          refine lv_goto (tgt := 38) hx hb dX5_octet_34 (by decide) ?_
          refine va_put (D := (dC, dI)) (ci := 6) (v := .int 0) (ty := .int) (C := RX5) (T := TX5) (N := 27) hx hb hts (by decide +kernel) tyX5 tyX5_ok nmX5 hown hK hP hD hS 0 rfl rfl 0 (by decide) (hts (.fieldLink RX5 69 "CobolDebuggerModel" "code" "I") (by decide +kernel)) (fun _ h9 => h9) rfl (by decide +kernel) rfl rfl (Nat.le_of_ble_eq_true rfl) dX5_octet_38 (fun H locs hP hD hS => ?_)
          have hP : va_P (dC, dI) vwCl [(m0, .inr (6, [.int 0, .int ms, .int mi, .int mt, .int ma, .int mf, .int mk, .int mp, .ref m1, .ref m2, .ref m3, .ref m4, .ref m5, .ref m6, .ref m7, .ref m8, .ref m9, .ref m10, .ref m11, .ref m12, .ref m13, .ref m14, .ref m15, .ref m16, .ref m17, .ref m18, .ref m19])), (m6, .inl (km6, 30, .inl mss)), (m7, .inl (km7, 270, .inl mbs))] H := hP
          have hD : va_D A [(m0, .inr (6, [.int 0, .int ms, .int mi, .int mt, .int ma, .int mf, .int mk, .int mp, .ref m1, .ref m2, .ref m3, .ref m4, .ref m5, .ref m6, .ref m7, .ref m8, .ref m9, .ref m10, .ref m11, .ref m12, .ref m13, .ref m14, .ref m15, .ref m16, .ref m17, .ref m18, .ref m19])), (m6, .inl (km6, 30, .inl mss)), (m7, .inl (km7, 270, .inl mbs))] := hD
          refine lv_iload_n hx hb dX5_octet_41 rfl (lv_at hl 0 rfl) ?_
          refine lv_if_eq (tgt := 59) hx hb dX5_octet_42 (by decide) (fun c_42 => ?_) (fun c_42 => ?_)
          · exact absurd c_42 (by decide)
          · refine lv_aload_n hx hb dX5_octet_45 rfl (lv_at hl 1 rfl) ?_
            refine va_get (D := (dC, dI)) (ci := 6) (v := .ref m7) (C := RX5) (T := TX5) (N := 27) hx hb hts (by decide +kernel) hown hK hP 0 rfl rfl 14 (by decide) (hts (.fieldLink RX5 29 "CobolDebuggerModel" "bytes" "[B") (by decide +kernel)) (fun _ h9 => h9) rfl dX5_octet_46 ?_
            refine lv_bipush (v := 9) hx hb dX5_octet_49 (by decide) ?_
            refine lv_iload_n hx hb dX5_octet_51 rfl (lv_at hl 2 rfl) ?_
            refine lv_imul hx hb dX5_octet_52 ?_
            refine lv_iload_n hx hb dX5_octet_53 rfl (lv_at hl 3 rfl) ?_
            refine lv_iadd hx hb dX5_octet_54 ?_
            refine va_bald hx hb hK hP 2 1 rfl rfl (i := (9 * im) + i) (ix_9m him (i_n0 c_9) (by have := n_lt c_19; have := hsz.2; omega)) dX5_octet_55 ?_
            refine lv_goto (tgt := 60) hx hb dX5_octet_56 (by decide) ?_
            exact W.zret (v := mbs ((9 * im) + i).toNatClampNeg) hx hb hr (nb_fit (hfb _)) (fun t ht hW => ⟨⟨(mbs ((9 * im) + i).toNatClampNeg), 0, rfl, trivial, by rw [ht]; exact hP, hD⟩, hS.F ht⟩) hS.2.2 dX5_octet_60

set_option maxHeartbeats 4000000 in
set_option maxRecDepth 100000 in
theorem g_X5_near (l : Launch) (dC : Nat → ClassId) (dI : Nat → Nat → Nat) (sz : Nat) (m0 m1 m2 m3 m4 m5 m6 m7 m8 m9 m10 m11 m12 m13 m14 m15 m16 m17 m18 m19 : Nat) (ce ms mi mt ma mf mk mp : Int32) (nm : Int32)  : Met l yX5_near wsX5_near ({ frames := 0, cells := 0, slots := 0, locals := 0 }) (va_Pc [.ref m0, .int nm] (fun U => U.heap.size = sz ∧ va_P (dC, dI) vwCl [(m0, .inr (6, [.int ce, .int ms, .int mi, .int mt, .int ma, .int mf, .int mk, .int mp, .ref m1, .ref m2, .ref m3, .ref m4, .ref m5, .ref m6, .ref m7, .ref m8, .ref m9, .ref m10, .ref m11, .ref m12, .ref m13, .ref m14, .ref m15, .ref m16, .ref m17, .ref m18, .ref m19]))] U.heap ∧ va_K (dC, dI) vwCl [] U ∧ va_D (fun _ => True) [(m0, .inr (6, [.int ce, .int ms, .int mi, .int mt, .int ma, .int mf, .int mk, .int mp, .ref m1, .ref m2, .ref m3, .ref m4, .ref m5, .ref m6, .ref m7, .ref m8, .ref m9, .ref m10, .ref m11, .ref m12, .ref m13, .ref m14, .ref m15, .ref m16, .ref m17, .ref m18, .ref m19]))])) (va_Qi (fun (r : Int32) (u : Int32) => r = if mi = 0 then (-1) else if nm < 0 then 0 else if nm < mi then nm else mi - 1) (fun (u : Int32) (t : State) => va_P (dC, dI) vwCl [(m0, .inr (6, [.int u, .int ms, .int mi, .int mt, .int ma, .int mf, .int mk, .int mp, .ref m1, .ref m2, .ref m3, .ref m4, .ref m5, .ref m6, .ref m7, .ref m8, .ref m9, .ref m10, .ref m11, .ref m12, .ref m13, .ref m14, .ref m15, .ref m16, .ref m17, .ref m18, .ref m19]))] t.heap ∧ va_D (va_A [(m0, .inr (6, [.int ce, .int ms, .int mi, .int mt, .int ma, .int mf, .int mk, .int mp, .ref m1, .ref m2, .ref m3, .ref m4, .ref m5, .ref m6, .ref m7, .ref m8, .ref m9, .ref m10, .ref m11, .ref m12, .ref m13, .ref m14, .ref m15, .ref m16, .ref m17, .ref m18, .ref m19]))] sz) [(m0, .inr (6, [.int u, .int ms, .int mi, .int mt, .int ma, .int mf, .int mk, .int mp, .ref m1, .ref m2, .ref m3, .ref m4, .ref m5, .ref m6, .ref m7, .ref m8, .ref m9, .ref m10, .ref m11, .ref m12, .ref m13, .ref m14, .ref m15, .ref m16, .ref m17, .ref m18, .ref m19]))]) (va_A [(m0, .inr (6, [.int ce, .int ms, .int mi, .int mt, .int ma, .int mf, .int mk, .int mp, .ref m1, .ref m2, .ref m3, .ref m4, .ref m5, .ref m6, .ref m7, .ref m8, .ref m9, .ref m10, .ref m11, .ref m12, .ref m13, .ref m14, .ref m15, .ref m16, .ref m17, .ref m18, .ref m19]))] sz)) 0 0 (va_A [(m0, .inr (6, [.int ce, .int ms, .int mi, .int mt, .int ma, .int mf, .int mk, .int mp, .ref m1, .ref m2, .ref m3, .ref m4, .ref m5, .ref m6, .ref m7, .ref m8, .ref m9, .ref m10, .ref m11, .ref m12, .ref m13, .ref m14, .ref m15, .ref m16, .ref m17, .ref m18, .ref m19]))] sz) := by
  refine Met.ofW (cc := cX5_near) (maxL := 2) (ret := (some .int)) (by decide) rfl ?_
  intro p e s m args below meth c s₁ B hml hv
  obtain ⟨rfl, hsz, hP, hK, hD0⟩ := hv
  have hx := B.exec
  have hb := B.bytes
  have hr := B.returns
  have hts := atoms_spec (ws := wsX5_near) B.pre
  have hown : s.vm.findClass RX5 = some m.cls := findClass_of_methodNamed B.named
  have hlocks := B.notSynchronized
  subst hsz
  have hD := hD0.self (sz := s.heap.size)
  generalize hAe : va_A [(m0, .inr (6, [.int ce, .int ms, .int mi, .int mt, .int ma, .int mf, .int mk, .int mp, .ref m1, .ref m2, .ref m3, .ref m4, .ref m5, .ref m6, .ref m7, .ref m8, .ref m9, .ref m10, .ref m11, .ref m12, .ref m13, .ref m14, .ref m15, .ref m16, .ref m17, .ref m18, .ref m19]))] s.heap.size = A at hD ⊢
  have hA : ∀ q : Nat, s.heap.size ≤ q → A q := fun q h => by rw [← hAe]; exact Or.inr h
  have hS : va_S A s.heap s.heap [] := va_S.rf
  have hl := lv_entry ([.ref m0, .int nm]) (n := 2) (Nat.le_of_ble_eq_true rfl)
  rw [lg_entry_eq]
  generalize (lg_sl ([.ref m0, .int nm]) ++ List.replicate (2 - (lg_sl ([.ref m0, .int nm])).length) Slot.unset).toArray = ls at hl ⊢
  have hl : lv_has ls 2 [(0, .ref m0), (1, .int nm)] := hl
  refine lv_aload_n hx hb dX5_near_0 rfl (lv_at hl 0 rfl) ?_
  refine lv_iconst (v := 0) hx hb dX5_near_1 (by decide) ?_
  refine va_put (D := (dC, dI)) (ci := 6) (v := .int 0) (ty := .int) (C := RX5) (T := TX5) (N := 27) hx hb hts (by decide +kernel) tyX5 tyX5_ok nmX5 hown hK hP hD hS 0 rfl rfl 0 (by decide) (hts (.fieldLink RX5 69 "CobolDebuggerModel" "code" "I") (by decide +kernel)) (fun _ h9 => h9) rfl (by decide +kernel) rfl rfl (Nat.le_of_ble_eq_true rfl) dX5_near_2 (fun H locs hP hD hS => ?_)
  have hP : va_P (dC, dI) vwCl [(m0, .inr (6, [.int 0, .int ms, .int mi, .int mt, .int ma, .int mf, .int mk, .int mp, .ref m1, .ref m2, .ref m3, .ref m4, .ref m5, .ref m6, .ref m7, .ref m8, .ref m9, .ref m10, .ref m11, .ref m12, .ref m13, .ref m14, .ref m15, .ref m16, .ref m17, .ref m18, .ref m19]))] H := hP
  have hD : va_D A [(m0, .inr (6, [.int 0, .int ms, .int mi, .int mt, .int ma, .int mf, .int mk, .int mp, .ref m1, .ref m2, .ref m3, .ref m4, .ref m5, .ref m6, .ref m7, .ref m8, .ref m9, .ref m10, .ref m11, .ref m12, .ref m13, .ref m14, .ref m15, .ref m16, .ref m17, .ref m18, .ref m19]))] := hD
  refine lv_aload_n hx hb dX5_near_5 rfl (lv_at hl 0 rfl) ?_
  refine va_get (D := (dC, dI)) (ci := 6) (v := .int mi) (C := RX5) (T := TX5) (N := 27) hx hb hts (by decide +kernel) hown hK hP 0 rfl rfl 2 (by decide) (hts (.fieldLink RX5 76 "CobolDebuggerModel" "items" "I") (by decide +kernel)) (fun _ h9 => h9) rfl dX5_near_6 ?_
  refine lv_if_ne (tgt := 16) hx hb dX5_near_9 (by decide) (fun c_9 => ?_) (fun c_9 => ?_)
  · refine lv_iload_n hx hb dX5_near_16 rfl (lv_at hl 1 rfl) ?_
    refine lv_if_ge (tgt := 24) hx hb dX5_near_17 (by decide) (fun c_17 => ?_) (fun c_17 => ?_)
    · refine lv_iload_n hx hb dX5_near_24 rfl (lv_at hl 1 rfl) ?_
      refine lv_aload_n hx hb dX5_near_25 rfl (lv_at hl 0 rfl) ?_
      refine va_get (D := (dC, dI)) (ci := 6) (v := .int mi) (C := RX5) (T := TX5) (N := 27) hx hb hts (by decide +kernel) hown hK hP 0 rfl rfl 2 (by decide) (hts (.fieldLink RX5 76 "CobolDebuggerModel" "items" "I") (by decide +kernel)) (fun _ h9 => h9) rfl dX5_near_26 ?_
      refine lv_icmp_ge (tgt := 36) hx hb dX5_near_29 (by decide) (fun c_29 => ?_) (fun c_29 => ?_)
      · refine lv_aload_n hx hb dX5_near_36 rfl (lv_at hl 0 rfl) ?_
        refine va_get (D := (dC, dI)) (ci := 6) (v := .int mi) (C := RX5) (T := TX5) (N := 27) hx hb hts (by decide +kernel) hown hK hP 0 rfl rfl 2 (by decide) (hts (.fieldLink RX5 76 "CobolDebuggerModel" "items" "I") (by decide +kernel)) (fun _ h9 => h9) rfl dX5_near_37 ?_
        refine lv_iconst (v := 1) hx hb dX5_near_40 (by decide) ?_
        refine lv_isub hx hb dX5_near_41 ?_
        exact W.iret (v := mi - 1) hx hb hr (fun t ht hW => ⟨⟨(mi - 1), 0, rfl, by rw [if_neg c_9, if_neg (Int32.not_lt.mpr c_17), if_neg (Int32.not_lt.mpr c_29)], by rw [ht]; exact hP, hD⟩, hS.F ht⟩) hS.2.2 dX5_near_42
      · refine lv_iload_n hx hb dX5_near_32 rfl (lv_at hl 1 rfl) ?_
        refine lv_goto (tgt := 42) hx hb dX5_near_33 (by decide) ?_
        exact W.iret (v := nm) hx hb hr (fun t ht hW => ⟨⟨nm, 0, rfl, by rw [if_neg c_9, if_neg (Int32.not_lt.mpr c_17), if_pos (Int32.not_le.mp c_29)], by rw [ht]; exact hP, hD⟩, hS.F ht⟩) hS.2.2 dX5_near_42
    · refine lv_iconst (v := 0) hx hb dX5_near_20 (by decide) ?_
      refine lv_goto (tgt := 42) hx hb dX5_near_21 (by decide) ?_
      exact W.iret (v := 0) hx hb hr (fun t ht hW => ⟨⟨0, 0, rfl, by rw [if_neg c_9, if_pos (Int32.not_le.mp c_17)], by rw [ht]; exact hP, hD⟩, hS.F ht⟩) hS.2.2 dX5_near_42
  · refine lv_iconst (v := (-1)) hx hb dX5_near_12 (by decide) ?_
    refine lv_goto (tgt := 42) hx hb dX5_near_13 (by decide) ?_
    exact W.iret (v := (-1)) hx hb hr (fun t ht hW => ⟨⟨(-1), 0, rfl, by rw [if_pos c_9], by rw [ht]; exact hP, hD⟩, hS.F ht⟩) hS.2.2 dX5_near_42

set_option maxHeartbeats 4000000 in
set_option maxRecDepth 100000 in
theorem g_X5_told (l : Launch) (dC : Nat → ClassId) (dI : Nat → Nat → Nat) (sz : Nat) (m0 m1 m2 m3 m4 m5 m6 m7 m8 m9 m10 m11 m12 m13 m14 m15 m16 m17 m18 m19 : Nat) (ce ms mi mt ma mf mk mp : Int32) (wh : Int32)  : Met l yX5_told wsX5_told ({ frames := 0, cells := 0, slots := 0, locals := 0 }) (va_Pc [.ref m0, .int wh] (fun U => U.heap.size = sz ∧ va_P (dC, dI) vwCl [(m0, .inr (6, [.int ce, .int ms, .int mi, .int mt, .int ma, .int mf, .int mk, .int mp, .ref m1, .ref m2, .ref m3, .ref m4, .ref m5, .ref m6, .ref m7, .ref m8, .ref m9, .ref m10, .ref m11, .ref m12, .ref m13, .ref m14, .ref m15, .ref m16, .ref m17, .ref m18, .ref m19]))] U.heap ∧ va_K (dC, dI) vwCl [] U ∧ va_D (fun _ => True) [(m0, .inr (6, [.int ce, .int ms, .int mi, .int mt, .int ma, .int mf, .int mk, .int mp, .ref m1, .ref m2, .ref m3, .ref m4, .ref m5, .ref m6, .ref m7, .ref m8, .ref m9, .ref m10, .ref m11, .ref m12, .ref m13, .ref m14, .ref m15, .ref m16, .ref m17, .ref m18, .ref m19]))])) (va_Qi (fun (r : Int32) (u : Int32) => True) (fun (u : Int32) (t : State) => va_P (dC, dI) vwCl [(m0, .inr (6, [.int u, .int ms, .int mi, .int mt, .int ma, .int mf, .int mk, .int mp, .ref m1, .ref m2, .ref m3, .ref m4, .ref m5, .ref m6, .ref m7, .ref m8, .ref m9, .ref m10, .ref m11, .ref m12, .ref m13, .ref m14, .ref m15, .ref m16, .ref m17, .ref m18, .ref m19]))] t.heap ∧ va_D (va_A [(m0, .inr (6, [.int ce, .int ms, .int mi, .int mt, .int ma, .int mf, .int mk, .int mp, .ref m1, .ref m2, .ref m3, .ref m4, .ref m5, .ref m6, .ref m7, .ref m8, .ref m9, .ref m10, .ref m11, .ref m12, .ref m13, .ref m14, .ref m15, .ref m16, .ref m17, .ref m18, .ref m19]))] sz) [(m0, .inr (6, [.int u, .int ms, .int mi, .int mt, .int ma, .int mf, .int mk, .int mp, .ref m1, .ref m2, .ref m3, .ref m4, .ref m5, .ref m6, .ref m7, .ref m8, .ref m9, .ref m10, .ref m11, .ref m12, .ref m13, .ref m14, .ref m15, .ref m16, .ref m17, .ref m18, .ref m19]))]) (va_A [(m0, .inr (6, [.int ce, .int ms, .int mi, .int mt, .int ma, .int mf, .int mk, .int mp, .ref m1, .ref m2, .ref m3, .ref m4, .ref m5, .ref m6, .ref m7, .ref m8, .ref m9, .ref m10, .ref m11, .ref m12, .ref m13, .ref m14, .ref m15, .ref m16, .ref m17, .ref m18, .ref m19]))] sz)) 0 0 (va_A [(m0, .inr (6, [.int ce, .int ms, .int mi, .int mt, .int ma, .int mf, .int mk, .int mp, .ref m1, .ref m2, .ref m3, .ref m4, .ref m5, .ref m6, .ref m7, .ref m8, .ref m9, .ref m10, .ref m11, .ref m12, .ref m13, .ref m14, .ref m15, .ref m16, .ref m17, .ref m18, .ref m19]))] sz) := by
  refine Met.ofW (cc := cX5_told) (maxL := 2) (ret := (some .int)) (by decide) rfl ?_
  intro p e s m args below meth c s₁ B hml hv
  obtain ⟨rfl, hsz, hP, hK, hD0⟩ := hv
  have hx := B.exec
  have hb := B.bytes
  have hr := B.returns
  have hts := atoms_spec (ws := wsX5_told) B.pre
  have hown : s.vm.findClass RX5 = some m.cls := findClass_of_methodNamed B.named
  have hlocks := B.notSynchronized
  subst hsz
  have hD := hD0.self (sz := s.heap.size)
  generalize hAe : va_A [(m0, .inr (6, [.int ce, .int ms, .int mi, .int mt, .int ma, .int mf, .int mk, .int mp, .ref m1, .ref m2, .ref m3, .ref m4, .ref m5, .ref m6, .ref m7, .ref m8, .ref m9, .ref m10, .ref m11, .ref m12, .ref m13, .ref m14, .ref m15, .ref m16, .ref m17, .ref m18, .ref m19]))] s.heap.size = A at hD ⊢
  have hA : ∀ q : Nat, s.heap.size ≤ q → A q := fun q h => by rw [← hAe]; exact Or.inr h
  have hS : va_S A s.heap s.heap [] := va_S.rf
  have hl := lv_entry ([.ref m0, .int wh]) (n := 2) (Nat.le_of_ble_eq_true rfl)
  rw [lg_entry_eq]
  generalize (lg_sl ([.ref m0, .int wh]) ++ List.replicate (2 - (lg_sl ([.ref m0, .int wh])).length) Slot.unset).toArray = ls at hl ⊢
  have hl : lv_has ls 2 [(0, .ref m0), (1, .int wh)] := hl
  refine lv_aload_n hx hb dX5_told_0 rfl (lv_at hl 0 rfl) ?_
  refine lv_iconst (v := 0) hx hb dX5_told_1 (by decide) ?_
  refine va_put (D := (dC, dI)) (ci := 6) (v := .int 0) (ty := .int) (C := RX5) (T := TX5) (N := 27) hx hb hts (by decide +kernel) tyX5 tyX5_ok nmX5 hown hK hP hD hS 0 rfl rfl 0 (by decide) (hts (.fieldLink RX5 69 "CobolDebuggerModel" "code" "I") (by decide +kernel)) (fun _ h9 => h9) rfl (by decide +kernel) rfl rfl (Nat.le_of_ble_eq_true rfl) dX5_told_2 (fun H locs hP hD hS => ?_)
  have hP : va_P (dC, dI) vwCl [(m0, .inr (6, [.int 0, .int ms, .int mi, .int mt, .int ma, .int mf, .int mk, .int mp, .ref m1, .ref m2, .ref m3, .ref m4, .ref m5, .ref m6, .ref m7, .ref m8, .ref m9, .ref m10, .ref m11, .ref m12, .ref m13, .ref m14, .ref m15, .ref m16, .ref m17, .ref m18, .ref m19]))] H := hP
  have hD : va_D A [(m0, .inr (6, [.int 0, .int ms, .int mi, .int mt, .int ma, .int mf, .int mk, .int mp, .ref m1, .ref m2, .ref m3, .ref m4, .ref m5, .ref m6, .ref m7, .ref m8, .ref m9, .ref m10, .ref m11, .ref m12, .ref m13, .ref m14, .ref m15, .ref m16, .ref m17, .ref m18, .ref m19]))] := hD
  refine lv_iload_n hx hb dX5_told_5 rfl (lv_at hl 1 rfl) ?_
  by_cases hsw : wh.toInt < 0 ∨ 6 < wh.toInt
  · refine lv_tableOut (tgt := 83) hx hb dX5_told_6 hsw (by decide) ?_
    refine lv_iconst (v := (-1)) hx hb dX5_told_83 (by decide) ?_
    exact W.iret (v := (-1)) hx hb hr (fun t ht hW => ⟨⟨(-1), 0, rfl, trivial, by rw [ht]; exact hP, hD⟩, hS.F ht⟩) hS.2.2 dX5_told_84
  · rcases (show wh.toInt = 0 ∨ wh.toInt = 1 ∨ wh.toInt = 2 ∨ wh.toInt = 3 ∨ wh.toInt = 4 ∨ wh.toInt = 5 ∨ wh.toInt = 6 by omega) with h_sw | h_sw | h_sw | h_sw | h_sw | h_sw | h_sw
    · refine lv_tableIn (tgt := 48) hx hb dX5_told_6 (by omega) (by omega) (by rw [h_sw]; rfl) (by decide) ?_
      refine lv_aload_n hx hb dX5_told_48 rfl (lv_at hl 0 rfl) ?_
      refine va_get (D := (dC, dI)) (ci := 6) (v := .int ms) (C := RX5) (T := TX5) (N := 27) hx hb hts (by decide +kernel) hown hK hP 0 rfl rfl 1 (by decide) (hts (.fieldLink RX5 73 "CobolDebuggerModel" "statements" "I") (by decide +kernel)) (fun _ h9 => h9) rfl dX5_told_49 ?_
      exact W.iret (v := ms) hx hb hr (fun t ht hW => ⟨⟨ms, 0, rfl, trivial, by rw [ht]; exact hP, hD⟩, hS.F ht⟩) hS.2.2 dX5_told_52
    · refine lv_tableIn (tgt := 53) hx hb dX5_told_6 (by omega) (by omega) (by rw [h_sw]; rfl) (by decide) ?_
      refine lv_aload_n hx hb dX5_told_53 rfl (lv_at hl 0 rfl) ?_
      refine va_get (D := (dC, dI)) (ci := 6) (v := .int mi) (C := RX5) (T := TX5) (N := 27) hx hb hts (by decide +kernel) hown hK hP 0 rfl rfl 2 (by decide) (hts (.fieldLink RX5 76 "CobolDebuggerModel" "items" "I") (by decide +kernel)) (fun _ h9 => h9) rfl dX5_told_54 ?_
      exact W.iret (v := mi) hx hb hr (fun t ht hW => ⟨⟨mi, 0, rfl, trivial, by rw [ht]; exact hP, hD⟩, hS.F ht⟩) hS.2.2 dX5_told_57
    · refine lv_tableIn (tgt := 58) hx hb dX5_told_6 (by omega) (by omega) (by rw [h_sw]; rfl) (by decide) ?_
      refine lv_aload_n hx hb dX5_told_58 rfl (lv_at hl 0 rfl) ?_
      refine va_get (D := (dC, dI)) (ci := 6) (v := .int mt) (C := RX5) (T := TX5) (N := 27) hx hb hts (by decide +kernel) hown hK hP 0 rfl rfl 3 (by decide) (hts (.fieldLink RX5 89 "CobolDebuggerModel" "stops" "I") (by decide +kernel)) (fun _ h9 => h9) rfl dX5_told_59 ?_
      exact W.iret (v := mt) hx hb hr (fun t ht hW => ⟨⟨mt, 0, rfl, trivial, by rw [ht]; exact hP, hD⟩, hS.F ht⟩) hS.2.2 dX5_told_62
    · refine lv_tableIn (tgt := 63) hx hb dX5_told_6 (by omega) (by omega) (by rw [h_sw]; rfl) (by decide) ?_
      refine lv_aload_n hx hb dX5_told_63 rfl (lv_at hl 0 rfl) ?_
      refine va_get (D := (dC, dI)) (ci := 6) (v := .int ma) (C := RX5) (T := TX5) (N := 27) hx hb hts (by decide +kernel) hown hK hP 0 rfl rfl 4 (by decide) (hts (.fieldLink RX5 79 "CobolDebuggerModel" "at" "I") (by decide +kernel)) (fun _ h9 => h9) rfl dX5_told_64 ?_
      exact W.iret (v := ma) hx hb hr (fun t ht hW => ⟨⟨ma, 0, rfl, trivial, by rw [ht]; exact hP, hD⟩, hS.F ht⟩) hS.2.2 dX5_told_67
    · refine lv_tableIn (tgt := 68) hx hb dX5_told_6 (by omega) (by omega) (by rw [h_sw]; rfl) (by decide) ?_
      refine lv_aload_n hx hb dX5_told_68 rfl (lv_at hl 0 rfl) ?_
      refine va_get (D := (dC, dI)) (ci := 6) (v := .int mk) (C := RX5) (T := TX5) (N := 27) hx hb hts (by decide +kernel) hown hK hP 0 rfl rfl 6 (by decide) (hts (.fieldLink RX5 113 "CobolDebuggerModel" "kept" "I") (by decide +kernel)) (fun _ h9 => h9) rfl dX5_told_69 ?_
      exact W.iret (v := mk) hx hb hr (fun t ht hW => ⟨⟨mk, 0, rfl, trivial, by rw [ht]; exact hP, hD⟩, hS.F ht⟩) hS.2.2 dX5_told_72
    · refine lv_tableIn (tgt := 73) hx hb dX5_told_6 (by omega) (by omega) (by rw [h_sw]; rfl) (by decide) ?_
      refine lv_aload_n hx hb dX5_told_73 rfl (lv_at hl 0 rfl) ?_
      refine va_get (D := (dC, dI)) (ci := 6) (v := .int mf) (C := RX5) (T := TX5) (N := 27) hx hb hts (by decide +kernel) hown hK hP 0 rfl rfl 5 (by decide) (hts (.fieldLink RX5 125 "CobolDebuggerModel" "faults" "I") (by decide +kernel)) (fun _ h9 => h9) rfl dX5_told_74 ?_
      exact W.iret (v := mf) hx hb hr (fun t ht hW => ⟨⟨mf, 0, rfl, trivial, by rw [ht]; exact hP, hD⟩, hS.F ht⟩) hS.2.2 dX5_told_77
    · refine lv_tableIn (tgt := 78) hx hb dX5_told_6 (by omega) (by omega) (by rw [h_sw]; rfl) (by decide) ?_
      refine lv_aload_n hx hb dX5_told_78 rfl (lv_at hl 0 rfl) ?_
      refine va_get (D := (dC, dI)) (ci := 6) (v := .int mp) (C := RX5) (T := TX5) (N := 27) hx hb hts (by decide +kernel) hown hK hP 0 rfl rfl 7 (by decide) (hts (.fieldLink RX5 116 "CobolDebuggerModel" "open" "I") (by decide +kernel)) (fun _ h9 => h9) rfl dX5_told_79 ?_
      exact W.iret (v := mp) hx hb hr (fun t ht hW => ⟨⟨mp, 0, rfl, trivial, by rw [ht]; exact hP, hD⟩, hS.F ht⟩) hS.2.2 dX5_told_82

set_option maxHeartbeats 4000000 in
set_option maxRecDepth 100000 in
theorem g_X5_performed (l : Launch) (dC : Nat → ClassId) (dI : Nat → Nat → Nat) (sz : Nat) (m0 m1 m2 m3 m4 m5 m6 m7 m8 m9 m10 m11 m12 m13 m14 m15 m16 m17 m18 m19 : Nat) (km12 : ClassId) (mpf : Nat → Int32) (ce ms mi mt ma mf mk mp : Int32) (ix : Int32) (hp1 : mp.toInt ≤ 20) : Met l yX5_performed wsX5_performed ({ frames := 0, cells := 0, slots := 0, locals := 0 }) (va_Pc [.ref m0, .int ix] (fun U => U.heap.size = sz ∧ va_P (dC, dI) vwCl [(m0, .inr (6, [.int ce, .int ms, .int mi, .int mt, .int ma, .int mf, .int mk, .int mp, .ref m1, .ref m2, .ref m3, .ref m4, .ref m5, .ref m6, .ref m7, .ref m8, .ref m9, .ref m10, .ref m11, .ref m12, .ref m13, .ref m14, .ref m15, .ref m16, .ref m17, .ref m18, .ref m19])), (m12, .inl (km12, 20, .inl mpf))] U.heap ∧ va_K (dC, dI) vwCl [(km12, .int)] U ∧ va_D (fun _ => True) [(m0, .inr (6, [.int ce, .int ms, .int mi, .int mt, .int ma, .int mf, .int mk, .int mp, .ref m1, .ref m2, .ref m3, .ref m4, .ref m5, .ref m6, .ref m7, .ref m8, .ref m9, .ref m10, .ref m11, .ref m12, .ref m13, .ref m14, .ref m15, .ref m16, .ref m17, .ref m18, .ref m19])), (m12, .inl (km12, 20, .inl mpf))])) (va_Qi (fun (r : Int32) (u : Int32) => True) (fun (u : Int32) (t : State) => va_P (dC, dI) vwCl [(m0, .inr (6, [.int u, .int ms, .int mi, .int mt, .int ma, .int mf, .int mk, .int mp, .ref m1, .ref m2, .ref m3, .ref m4, .ref m5, .ref m6, .ref m7, .ref m8, .ref m9, .ref m10, .ref m11, .ref m12, .ref m13, .ref m14, .ref m15, .ref m16, .ref m17, .ref m18, .ref m19])), (m12, .inl (km12, 20, .inl mpf))] t.heap ∧ va_D (va_A [(m0, .inr (6, [.int ce, .int ms, .int mi, .int mt, .int ma, .int mf, .int mk, .int mp, .ref m1, .ref m2, .ref m3, .ref m4, .ref m5, .ref m6, .ref m7, .ref m8, .ref m9, .ref m10, .ref m11, .ref m12, .ref m13, .ref m14, .ref m15, .ref m16, .ref m17, .ref m18, .ref m19])), (m12, .inl (km12, 20, .inl mpf))] sz) [(m0, .inr (6, [.int u, .int ms, .int mi, .int mt, .int ma, .int mf, .int mk, .int mp, .ref m1, .ref m2, .ref m3, .ref m4, .ref m5, .ref m6, .ref m7, .ref m8, .ref m9, .ref m10, .ref m11, .ref m12, .ref m13, .ref m14, .ref m15, .ref m16, .ref m17, .ref m18, .ref m19])), (m12, .inl (km12, 20, .inl mpf))]) (va_A [(m0, .inr (6, [.int ce, .int ms, .int mi, .int mt, .int ma, .int mf, .int mk, .int mp, .ref m1, .ref m2, .ref m3, .ref m4, .ref m5, .ref m6, .ref m7, .ref m8, .ref m9, .ref m10, .ref m11, .ref m12, .ref m13, .ref m14, .ref m15, .ref m16, .ref m17, .ref m18, .ref m19])), (m12, .inl (km12, 20, .inl mpf))] sz)) 0 0 (va_A [(m0, .inr (6, [.int ce, .int ms, .int mi, .int mt, .int ma, .int mf, .int mk, .int mp, .ref m1, .ref m2, .ref m3, .ref m4, .ref m5, .ref m6, .ref m7, .ref m8, .ref m9, .ref m10, .ref m11, .ref m12, .ref m13, .ref m14, .ref m15, .ref m16, .ref m17, .ref m18, .ref m19])), (m12, .inl (km12, 20, .inl mpf))] sz) := by
  refine Met.ofW (cc := cX5_performed) (maxL := 2) (ret := (some .int)) (by decide) rfl ?_
  intro p e s m args below meth c s₁ B hml hv
  obtain ⟨rfl, hsz, hP, hK, hD0⟩ := hv
  have hx := B.exec
  have hb := B.bytes
  have hr := B.returns
  have hts := atoms_spec (ws := wsX5_performed) B.pre
  have hown : s.vm.findClass RX5 = some m.cls := findClass_of_methodNamed B.named
  have hlocks := B.notSynchronized
  subst hsz
  have hD := hD0.self (sz := s.heap.size)
  generalize hAe : va_A [(m0, .inr (6, [.int ce, .int ms, .int mi, .int mt, .int ma, .int mf, .int mk, .int mp, .ref m1, .ref m2, .ref m3, .ref m4, .ref m5, .ref m6, .ref m7, .ref m8, .ref m9, .ref m10, .ref m11, .ref m12, .ref m13, .ref m14, .ref m15, .ref m16, .ref m17, .ref m18, .ref m19])), (m12, .inl (km12, 20, .inl mpf))] s.heap.size = A at hD ⊢
  have hA : ∀ q : Nat, s.heap.size ≤ q → A q := fun q h => by rw [← hAe]; exact Or.inr h
  have hS : va_S A s.heap s.heap [] := va_S.rf
  have hl := lv_entry ([.ref m0, .int ix]) (n := 2) (Nat.le_of_ble_eq_true rfl)
  rw [lg_entry_eq]
  generalize (lg_sl ([.ref m0, .int ix]) ++ List.replicate (2 - (lg_sl ([.ref m0, .int ix])).length) Slot.unset).toArray = ls at hl ⊢
  have hl : lv_has ls 2 [(0, .ref m0), (1, .int ix)] := hl
  refine lv_aload_n hx hb dX5_performed_0 rfl (lv_at hl 0 rfl) ?_
  refine lv_iconst (v := 0) hx hb dX5_performed_1 (by decide) ?_
  refine va_put (D := (dC, dI)) (ci := 6) (v := .int 0) (ty := .int) (C := RX5) (T := TX5) (N := 27) hx hb hts (by decide +kernel) tyX5 tyX5_ok nmX5 hown hK hP hD hS 0 rfl rfl 0 (by decide) (hts (.fieldLink RX5 69 "CobolDebuggerModel" "code" "I") (by decide +kernel)) (fun _ h9 => h9) rfl (by decide +kernel) rfl rfl (Nat.le_of_ble_eq_true rfl) dX5_performed_2 (fun H locs hP hD hS => ?_)
  have hP : va_P (dC, dI) vwCl [(m0, .inr (6, [.int 0, .int ms, .int mi, .int mt, .int ma, .int mf, .int mk, .int mp, .ref m1, .ref m2, .ref m3, .ref m4, .ref m5, .ref m6, .ref m7, .ref m8, .ref m9, .ref m10, .ref m11, .ref m12, .ref m13, .ref m14, .ref m15, .ref m16, .ref m17, .ref m18, .ref m19])), (m12, .inl (km12, 20, .inl mpf))] H := hP
  have hD : va_D A [(m0, .inr (6, [.int 0, .int ms, .int mi, .int mt, .int ma, .int mf, .int mk, .int mp, .ref m1, .ref m2, .ref m3, .ref m4, .ref m5, .ref m6, .ref m7, .ref m8, .ref m9, .ref m10, .ref m11, .ref m12, .ref m13, .ref m14, .ref m15, .ref m16, .ref m17, .ref m18, .ref m19])), (m12, .inl (km12, 20, .inl mpf))] := hD
  refine lv_iload_n hx hb dX5_performed_5 rfl (lv_at hl 1 rfl) ?_
  refine lv_if_lt (tgt := 33) hx hb dX5_performed_6 (by decide) (fun c_6 => ?_) (fun c_6 => ?_)
  · refine lv_iconst (v := 0) hx hb dX5_performed_33 (by decide) ?_
    exact W.iret (v := 0) hx hb hr (fun t ht hW => ⟨⟨0, 0, rfl, trivial, by rw [ht]; exact hP, hD⟩, hS.F ht⟩) hS.2.2 dX5_performed_34
  · refine lv_iload_n hx hb dX5_performed_9 rfl (lv_at hl 1 rfl) ?_
    refine lv_aload_n hx hb dX5_performed_10 rfl (lv_at hl 0 rfl) ?_
    refine va_get (D := (dC, dI)) (ci := 6) (v := .int mp) (C := RX5) (T := TX5) (N := 27) hx hb hts (by decide +kernel) hown hK hP 0 rfl rfl 7 (by decide) (hts (.fieldLink RX5 116 "CobolDebuggerModel" "open" "I") (by decide +kernel)) (fun _ h9 => h9) rfl dX5_performed_11 ?_
    refine lv_icmp_ge (tgt := 33) hx hb dX5_performed_14 (by decide) (fun c_14 => ?_) (fun c_14 => ?_)
    · refine lv_iconst (v := 0) hx hb dX5_performed_33 (by decide) ?_
      exact W.iret (v := 0) hx hb hr (fun t ht hW => ⟨⟨0, 0, rfl, trivial, by rw [ht]; exact hP, hD⟩, hS.F ht⟩) hS.2.2 dX5_performed_34
    · refine lv_aload_n hx hb dX5_performed_17 rfl (lv_at hl 0 rfl) ?_
      refine va_get (D := (dC, dI)) (ci := 6) (v := .ref m12) (C := RX5) (T := TX5) (N := 27) hx hb hts (by decide +kernel) hown hK hP 0 rfl rfl 19 (by decide) (hts (.fieldLink RX5 45 "CobolDebuggerModel" "performed" "[I") (by decide +kernel)) (fun _ h9 => h9) rfl dX5_performed_18 ?_
      refine lv_aload_n hx hb dX5_performed_21 rfl (lv_at hl 0 rfl) ?_
      refine va_get (D := (dC, dI)) (ci := 6) (v := .int mp) (C := RX5) (T := TX5) (N := 27) hx hb hts (by decide +kernel) hown hK hP 0 rfl rfl 7 (by decide) (hts (.fieldLink RX5 116 "CobolDebuggerModel" "open" "I") (by decide +kernel)) (fun _ h9 => h9) rfl dX5_performed_22 ?_
      refine lv_iconst (v := 1) hx hb dX5_performed_25 (by decide) ?_
      refine lv_isub hx hb dX5_performed_26 ?_
      refine lv_iload_n hx hb dX5_performed_27 rfl (lv_at hl 1 rfl) ?_
      refine lv_isub hx hb dX5_performed_28 ?_
      refine va_iald hx hb hK hP 1 0 rfl rfl (i := (mp - 1) - ix) (ix_pf c_6 c_14 hp1) dX5_performed_29 ?_
      refine lv_goto (tgt := 34) hx hb dX5_performed_30 (by decide) ?_
      exact W.iret (v := mpf ((mp - 1) - ix).toNatClampNeg) hx hb hr (fun t ht hW => ⟨⟨(mpf ((mp - 1) - ix).toNatClampNeg), 0, rfl, trivial, by rw [ht]; exact hP, hD⟩, hS.F ht⟩) hS.2.2 dX5_performed_34

set_option maxHeartbeats 4000000 in
set_option maxRecDepth 100000 in
theorem g_X5_count (l : Launch) (dC : Nat → ClassId) (dI : Nat → Nat → Nat) (sz : Nat) (m0 m1 m2 m3 m4 m5 m6 m7 m8 m9 m10 m11 m12 m13 m14 m15 m16 m17 m18 m19 : Nat) (km11 : ClassId) (mct : Nat → Int32) (ce ms mi mt ma mf mk mp : Int32) (pa : Int32)  : Met l yX5_count wsX5_count ({ frames := 0, cells := 0, slots := 0, locals := 0 }) (va_Pc [.ref m0, .int pa] (fun U => U.heap.size = sz ∧ va_P (dC, dI) vwCl [(m0, .inr (6, [.int ce, .int ms, .int mi, .int mt, .int ma, .int mf, .int mk, .int mp, .ref m1, .ref m2, .ref m3, .ref m4, .ref m5, .ref m6, .ref m7, .ref m8, .ref m9, .ref m10, .ref m11, .ref m12, .ref m13, .ref m14, .ref m15, .ref m16, .ref m17, .ref m18, .ref m19])), (m11, .inl (km11, 20, .inl mct))] U.heap ∧ va_K (dC, dI) vwCl [(km11, .int)] U ∧ va_D (fun _ => True) [(m0, .inr (6, [.int ce, .int ms, .int mi, .int mt, .int ma, .int mf, .int mk, .int mp, .ref m1, .ref m2, .ref m3, .ref m4, .ref m5, .ref m6, .ref m7, .ref m8, .ref m9, .ref m10, .ref m11, .ref m12, .ref m13, .ref m14, .ref m15, .ref m16, .ref m17, .ref m18, .ref m19])), (m11, .inl (km11, 20, .inl mct))])) (va_Qi (fun (r : Int32) (u : Int32) => True) (fun (u : Int32) (t : State) => va_P (dC, dI) vwCl [(m0, .inr (6, [.int u, .int ms, .int mi, .int mt, .int ma, .int mf, .int mk, .int mp, .ref m1, .ref m2, .ref m3, .ref m4, .ref m5, .ref m6, .ref m7, .ref m8, .ref m9, .ref m10, .ref m11, .ref m12, .ref m13, .ref m14, .ref m15, .ref m16, .ref m17, .ref m18, .ref m19])), (m11, .inl (km11, 20, .inl mct))] t.heap ∧ va_D (va_A [(m0, .inr (6, [.int ce, .int ms, .int mi, .int mt, .int ma, .int mf, .int mk, .int mp, .ref m1, .ref m2, .ref m3, .ref m4, .ref m5, .ref m6, .ref m7, .ref m8, .ref m9, .ref m10, .ref m11, .ref m12, .ref m13, .ref m14, .ref m15, .ref m16, .ref m17, .ref m18, .ref m19])), (m11, .inl (km11, 20, .inl mct))] sz) [(m0, .inr (6, [.int u, .int ms, .int mi, .int mt, .int ma, .int mf, .int mk, .int mp, .ref m1, .ref m2, .ref m3, .ref m4, .ref m5, .ref m6, .ref m7, .ref m8, .ref m9, .ref m10, .ref m11, .ref m12, .ref m13, .ref m14, .ref m15, .ref m16, .ref m17, .ref m18, .ref m19])), (m11, .inl (km11, 20, .inl mct))]) (va_A [(m0, .inr (6, [.int ce, .int ms, .int mi, .int mt, .int ma, .int mf, .int mk, .int mp, .ref m1, .ref m2, .ref m3, .ref m4, .ref m5, .ref m6, .ref m7, .ref m8, .ref m9, .ref m10, .ref m11, .ref m12, .ref m13, .ref m14, .ref m15, .ref m16, .ref m17, .ref m18, .ref m19])), (m11, .inl (km11, 20, .inl mct))] sz)) 0 0 (va_A [(m0, .inr (6, [.int ce, .int ms, .int mi, .int mt, .int ma, .int mf, .int mk, .int mp, .ref m1, .ref m2, .ref m3, .ref m4, .ref m5, .ref m6, .ref m7, .ref m8, .ref m9, .ref m10, .ref m11, .ref m12, .ref m13, .ref m14, .ref m15, .ref m16, .ref m17, .ref m18, .ref m19])), (m11, .inl (km11, 20, .inl mct))] sz) := by
  refine Met.ofW (cc := cX5_count) (maxL := 2) (ret := (some .int)) (by decide) rfl ?_
  intro p e s m args below meth c s₁ B hml hv
  obtain ⟨rfl, hsz, hP, hK, hD0⟩ := hv
  have hx := B.exec
  have hb := B.bytes
  have hr := B.returns
  have hts := atoms_spec (ws := wsX5_count) B.pre
  have hown : s.vm.findClass RX5 = some m.cls := findClass_of_methodNamed B.named
  have hlocks := B.notSynchronized
  subst hsz
  have hD := hD0.self (sz := s.heap.size)
  generalize hAe : va_A [(m0, .inr (6, [.int ce, .int ms, .int mi, .int mt, .int ma, .int mf, .int mk, .int mp, .ref m1, .ref m2, .ref m3, .ref m4, .ref m5, .ref m6, .ref m7, .ref m8, .ref m9, .ref m10, .ref m11, .ref m12, .ref m13, .ref m14, .ref m15, .ref m16, .ref m17, .ref m18, .ref m19])), (m11, .inl (km11, 20, .inl mct))] s.heap.size = A at hD ⊢
  have hA : ∀ q : Nat, s.heap.size ≤ q → A q := fun q h => by rw [← hAe]; exact Or.inr h
  have hS : va_S A s.heap s.heap [] := va_S.rf
  have hl := lv_entry ([.ref m0, .int pa]) (n := 2) (Nat.le_of_ble_eq_true rfl)
  rw [lg_entry_eq]
  generalize (lg_sl ([.ref m0, .int pa]) ++ List.replicate (2 - (lg_sl ([.ref m0, .int pa])).length) Slot.unset).toArray = ls at hl ⊢
  have hl : lv_has ls 2 [(0, .ref m0), (1, .int pa)] := hl
  refine lv_aload_n hx hb dX5_count_0 rfl (lv_at hl 0 rfl) ?_
  refine lv_iconst (v := 0) hx hb dX5_count_1 (by decide) ?_
  refine va_put (D := (dC, dI)) (ci := 6) (v := .int 0) (ty := .int) (C := RX5) (T := TX5) (N := 27) hx hb hts (by decide +kernel) tyX5 tyX5_ok nmX5 hown hK hP hD hS 0 rfl rfl 0 (by decide) (hts (.fieldLink RX5 69 "CobolDebuggerModel" "code" "I") (by decide +kernel)) (fun _ h9 => h9) rfl (by decide +kernel) rfl rfl (Nat.le_of_ble_eq_true rfl) dX5_count_2 (fun H locs hP hD hS => ?_)
  have hP : va_P (dC, dI) vwCl [(m0, .inr (6, [.int 0, .int ms, .int mi, .int mt, .int ma, .int mf, .int mk, .int mp, .ref m1, .ref m2, .ref m3, .ref m4, .ref m5, .ref m6, .ref m7, .ref m8, .ref m9, .ref m10, .ref m11, .ref m12, .ref m13, .ref m14, .ref m15, .ref m16, .ref m17, .ref m18, .ref m19])), (m11, .inl (km11, 20, .inl mct))] H := hP
  have hD : va_D A [(m0, .inr (6, [.int 0, .int ms, .int mi, .int mt, .int ma, .int mf, .int mk, .int mp, .ref m1, .ref m2, .ref m3, .ref m4, .ref m5, .ref m6, .ref m7, .ref m8, .ref m9, .ref m10, .ref m11, .ref m12, .ref m13, .ref m14, .ref m15, .ref m16, .ref m17, .ref m18, .ref m19])), (m11, .inl (km11, 20, .inl mct))] := hD
  refine lv_iload_n hx hb dX5_count_5 rfl (lv_at hl 1 rfl) ?_
  refine lv_if_lt (tgt := 15) hx hb dX5_count_6 (by decide) (fun c_6 => ?_) (fun c_6 => ?_)
  · refine lv_bipush (v := (-4)) hx hb dX5_count_15 (by decide) ?_
    refine lv_goto (tgt := 26) hx hb dX5_count_17 (by decide) ?_
    exact W.iret (v := (-4)) hx hb hr (fun t ht hW => ⟨⟨(-4), 0, rfl, trivial, by rw [ht]; exact hP, hD⟩, hS.F ht⟩) hS.2.2 dX5_count_26
  · refine lv_iload_n hx hb dX5_count_9 rfl (lv_at hl 1 rfl) ?_
    refine lv_bipush (v := 19) hx hb dX5_count_10 (by decide) ?_
    refine lv_icmp_le (tgt := 20) hx hb dX5_count_12 (by decide) (fun c_12 => ?_) (fun c_12 => ?_)
    · refine lv_aload_n hx hb dX5_count_20 rfl (lv_at hl 0 rfl) ?_
      refine va_get (D := (dC, dI)) (ci := 6) (v := .ref m11) (C := RX5) (T := TX5) (N := 27) hx hb hts (by decide +kernel) hown hK hP 0 rfl rfl 18 (by decide) (hts (.fieldLink RX5 42 "CobolDebuggerModel" "counts" "[I") (by decide +kernel)) (fun _ h9 => h9) rfl dX5_count_21 ?_
      refine lv_iload_n hx hb dX5_count_24 rfl (lv_at hl 1 rfl) ?_
      refine va_iald hx hb hK hP 1 0 rfl rfl (i := pa) (ix_r (i_n0 c_6) (by rw [i_le] at c_12; have e1 : (19 : Int32).toInt = 19 := (by decide); omega)) dX5_count_25 ?_
      exact W.iret (v := mct pa.toNatClampNeg) hx hb hr (fun t ht hW => ⟨⟨(mct pa.toNatClampNeg), 0, rfl, trivial, by rw [ht]; exact hP, hD⟩, hS.F ht⟩) hS.2.2 dX5_count_26
    · refine lv_bipush (v := (-4)) hx hb dX5_count_15 (by decide) ?_
      refine lv_goto (tgt := 26) hx hb dX5_count_17 (by decide) ?_
      exact W.iret (v := (-4)) hx hb hr (fun t ht hW => ⟨⟨(-4), 0, rfl, trivial, by rw [ht]; exact hP, hD⟩, hS.F ht⟩) hS.2.2 dX5_count_26

set_option maxHeartbeats 4000000 in
set_option maxRecDepth 100000 in
theorem g_X5_caught (l : Launch) (dC : Nat → ClassId) (dI : Nat → Nat → Nat) (sz : Nat) (m0 m1 m2 m3 m4 m5 m6 m7 m8 m9 m10 m11 m12 m13 m14 m15 m16 m17 m18 m19 : Nat) (km8 km9 km10 : ClassId) (mkd mof mcd : Nat → Int32) (ce ms mi mt ma mf mk mp : Int32) (co : Int32) (te : Int32) (ht0 : 0 ≤ mt.toInt) (ht1 : mt.toInt ≤ 20) : Met l yX5_caught wsX5_caught ({ frames := 0, cells := 0, slots := 0, locals := 0 }) (va_Pc [.ref m0, .int co, .int te] (fun U => U.heap.size = sz ∧ va_P (dC, dI) vwCl [(m0, .inr (6, [.int ce, .int ms, .int mi, .int mt, .int ma, .int mf, .int mk, .int mp, .ref m1, .ref m2, .ref m3, .ref m4, .ref m5, .ref m6, .ref m7, .ref m8, .ref m9, .ref m10, .ref m11, .ref m12, .ref m13, .ref m14, .ref m15, .ref m16, .ref m17, .ref m18, .ref m19])), (m8, .inl (km8, 21, .inl mkd)), (m9, .inl (km9, 21, .inl mof)), (m10, .inl (km10, 21, .inl mcd))] U.heap ∧ va_K (dC, dI) vwCl [(km8, .int), (km9, .int), (km10, .int)] U ∧ va_D (fun _ => True) [(m0, .inr (6, [.int ce, .int ms, .int mi, .int mt, .int ma, .int mf, .int mk, .int mp, .ref m1, .ref m2, .ref m3, .ref m4, .ref m5, .ref m6, .ref m7, .ref m8, .ref m9, .ref m10, .ref m11, .ref m12, .ref m13, .ref m14, .ref m15, .ref m16, .ref m17, .ref m18, .ref m19])), (m8, .inl (km8, 21, .inl mkd)), (m9, .inl (km9, 21, .inl mof)), (m10, .inl (km10, 21, .inl mcd))])) (va_Qi (fun (r : Int32) (u : Int32) => ltS (fun j => mkd (j + 1) = 4 ∧ mof (j + 1) = co ∧ mcd (j + 1) = te) mt.toInt.toNat r) (fun (u : Int32) (t : State) => va_P (dC, dI) vwCl [(m0, .inr (6, [.int u, .int ms, .int mi, .int mt, .int ma, .int mf, .int mk, .int mp, .ref m1, .ref m2, .ref m3, .ref m4, .ref m5, .ref m6, .ref m7, .ref m8, .ref m9, .ref m10, .ref m11, .ref m12, .ref m13, .ref m14, .ref m15, .ref m16, .ref m17, .ref m18, .ref m19])), (m8, .inl (km8, 21, .inl mkd)), (m9, .inl (km9, 21, .inl mof)), (m10, .inl (km10, 21, .inl mcd))] t.heap ∧ va_D (va_A [(m0, .inr (6, [.int ce, .int ms, .int mi, .int mt, .int ma, .int mf, .int mk, .int mp, .ref m1, .ref m2, .ref m3, .ref m4, .ref m5, .ref m6, .ref m7, .ref m8, .ref m9, .ref m10, .ref m11, .ref m12, .ref m13, .ref m14, .ref m15, .ref m16, .ref m17, .ref m18, .ref m19])), (m8, .inl (km8, 21, .inl mkd)), (m9, .inl (km9, 21, .inl mof)), (m10, .inl (km10, 21, .inl mcd))] sz) [(m0, .inr (6, [.int u, .int ms, .int mi, .int mt, .int ma, .int mf, .int mk, .int mp, .ref m1, .ref m2, .ref m3, .ref m4, .ref m5, .ref m6, .ref m7, .ref m8, .ref m9, .ref m10, .ref m11, .ref m12, .ref m13, .ref m14, .ref m15, .ref m16, .ref m17, .ref m18, .ref m19])), (m8, .inl (km8, 21, .inl mkd)), (m9, .inl (km9, 21, .inl mof)), (m10, .inl (km10, 21, .inl mcd))]) (va_A [(m0, .inr (6, [.int ce, .int ms, .int mi, .int mt, .int ma, .int mf, .int mk, .int mp, .ref m1, .ref m2, .ref m3, .ref m4, .ref m5, .ref m6, .ref m7, .ref m8, .ref m9, .ref m10, .ref m11, .ref m12, .ref m13, .ref m14, .ref m15, .ref m16, .ref m17, .ref m18, .ref m19])), (m8, .inl (km8, 21, .inl mkd)), (m9, .inl (km9, 21, .inl mof)), (m10, .inl (km10, 21, .inl mcd))] sz)) 0 0 (va_A [(m0, .inr (6, [.int ce, .int ms, .int mi, .int mt, .int ma, .int mf, .int mk, .int mp, .ref m1, .ref m2, .ref m3, .ref m4, .ref m5, .ref m6, .ref m7, .ref m8, .ref m9, .ref m10, .ref m11, .ref m12, .ref m13, .ref m14, .ref m15, .ref m16, .ref m17, .ref m18, .ref m19])), (m8, .inl (km8, 21, .inl mkd)), (m9, .inl (km9, 21, .inl mof)), (m10, .inl (km10, 21, .inl mcd))] sz) := by
  refine Met.ofW (cc := cX5_caught) (maxL := 4) (ret := (some .int)) (by decide) rfl ?_
  intro p e s m args below meth c s₁ B hml hv
  obtain ⟨rfl, hsz, hP, hK, hD0⟩ := hv
  have hx := B.exec
  have hb := B.bytes
  have hr := B.returns
  have hts := atoms_spec (ws := wsX5_caught) B.pre
  have hown : s.vm.findClass RX5 = some m.cls := findClass_of_methodNamed B.named
  have hlocks := B.notSynchronized
  subst hsz
  have hD := hD0.self (sz := s.heap.size)
  generalize hAe : va_A [(m0, .inr (6, [.int ce, .int ms, .int mi, .int mt, .int ma, .int mf, .int mk, .int mp, .ref m1, .ref m2, .ref m3, .ref m4, .ref m5, .ref m6, .ref m7, .ref m8, .ref m9, .ref m10, .ref m11, .ref m12, .ref m13, .ref m14, .ref m15, .ref m16, .ref m17, .ref m18, .ref m19])), (m8, .inl (km8, 21, .inl mkd)), (m9, .inl (km9, 21, .inl mof)), (m10, .inl (km10, 21, .inl mcd))] s.heap.size = A at hD ⊢
  have hA : ∀ q : Nat, s.heap.size ≤ q → A q := fun q h => by rw [← hAe]; exact Or.inr h
  have hS : va_S A s.heap s.heap [] := va_S.rf
  have hl := lv_entry ([.ref m0, .int co, .int te]) (n := 4) (Nat.le_of_ble_eq_true rfl)
  rw [lg_entry_eq]
  generalize (lg_sl ([.ref m0, .int co, .int te]) ++ List.replicate (4 - (lg_sl ([.ref m0, .int co, .int te])).length) Slot.unset).toArray = ls at hl ⊢
  have hl : lv_has ls 4 [(0, .ref m0), (1, .int co), (2, .int te)] := hl
  refine lv_aload_n hx hb dX5_caught_0 rfl (lv_at hl 0 rfl) ?_
  refine lv_iconst (v := 0) hx hb dX5_caught_1 (by decide) ?_
  refine va_put (D := (dC, dI)) (ci := 6) (v := .int 0) (ty := .int) (C := RX5) (T := TX5) (N := 27) hx hb hts (by decide +kernel) tyX5 tyX5_ok nmX5 hown hK hP hD hS 0 rfl rfl 0 (by decide) (hts (.fieldLink RX5 69 "CobolDebuggerModel" "code" "I") (by decide +kernel)) (fun _ h9 => h9) rfl (by decide +kernel) rfl rfl (Nat.le_of_ble_eq_true rfl) dX5_caught_2 (fun H locs hP hD hS => ?_)
  have hP : va_P (dC, dI) vwCl [(m0, .inr (6, [.int 0, .int ms, .int mi, .int mt, .int ma, .int mf, .int mk, .int mp, .ref m1, .ref m2, .ref m3, .ref m4, .ref m5, .ref m6, .ref m7, .ref m8, .ref m9, .ref m10, .ref m11, .ref m12, .ref m13, .ref m14, .ref m15, .ref m16, .ref m17, .ref m18, .ref m19])), (m8, .inl (km8, 21, .inl mkd)), (m9, .inl (km9, 21, .inl mof)), (m10, .inl (km10, 21, .inl mcd))] H := hP
  have hD : va_D A [(m0, .inr (6, [.int 0, .int ms, .int mi, .int mt, .int ma, .int mf, .int mk, .int mp, .ref m1, .ref m2, .ref m3, .ref m4, .ref m5, .ref m6, .ref m7, .ref m8, .ref m9, .ref m10, .ref m11, .ref m12, .ref m13, .ref m14, .ref m15, .ref m16, .ref m17, .ref m18, .ref m19])), (m8, .inl (km8, 21, .inl mkd)), (m9, .inl (km9, 21, .inl mof)), (m10, .inl (km10, 21, .inl mcd))] := hD
  refine lv_iconst (v := 1) hx hb dX5_caught_5 (by decide) ?_
  refine lv_istore_n (lv' := [(3, .int 1), (0, .ref m0), (1, .int co), (2, .int te)]) hx hb dX5_caught_6 rfl hl (by decide) rfl (fun ls hl => ?_)
  refine wl2 (μ := fun (i : Int32) (k : Nat) => mt.toInt.toNat - k) (I := fun (i : Int32) (k : Nat) (ls : Array Slot) (H : Heap) (locs : List Loc) => lv_has ls 4 [(0, .ref m0), (1, .int co), (2, .int te), (3, .int i)] ∧ va_P (dC, dI) vwCl [(m0, .inr (6, [.int 0, .int ms, .int mi, .int mt, .int ma, .int mf, .int mk, .int mp, .ref m1, .ref m2, .ref m3, .ref m4, .ref m5, .ref m6, .ref m7, .ref m8, .ref m9, .ref m10, .ref m11, .ref m12, .ref m13, .ref m14, .ref m15, .ref m16, .ref m17, .ref m18, .ref m19])), (m8, .inl (km8, 21, .inl mkd)), (m9, .inl (km9, 21, .inl mof)), (m10, .inl (km10, 21, .inl mcd))] H ∧ va_D A [(m0, .inr (6, [.int 0, .int ms, .int mi, .int mt, .int ma, .int mf, .int mk, .int mp, .ref m1, .ref m2, .ref m3, .ref m4, .ref m5, .ref m6, .ref m7, .ref m8, .ref m9, .ref m10, .ref m11, .ref m12, .ref m13, .ref m14, .ref m15, .ref m16, .ref m17, .ref m18, .ref m19])), (m8, .inl (km8, 21, .inl mkd)), (m9, .inl (km9, 21, .inl mof)), (m10, .inl (km10, 21, .inl mcd))] ∧ va_S A s.heap H locs ∧ (i = nI (k + 1)) ∧ (∀ j, j < k → ¬ (mkd (j + 1) = 4 ∧ mof (j + 1) = co ∧ mcd (j + 1) = te)) ∧ (k ≤ mt.toInt.toNat)) (fun i k ls H locs hI ih => ?_) 1 0 ls _ _ ⟨lv_sub hl [1, 2, 3, 0] rfl, hP, hD, hS, rfl, fun j h => absurd h (Nat.not_lt_zero _), Nat.zero_le _⟩
  obtain ⟨hl, hP, hD, hS, ei, hnm, hni⟩ := hI
  have eit : i.toInt = (k : Int) + 1 := by rw [ei, nI_toInt (by omega)]; omega
  refine lv_iload_n hx hb dX5_caught_7 rfl (lv_at hl 3 rfl) ?_
  refine lv_aload_n hx hb dX5_caught_8 rfl (lv_at hl 0 rfl) ?_
  refine va_get (D := (dC, dI)) (ci := 6) (v := .int mt) (C := RX5) (T := TX5) (N := 27) hx hb hts (by decide +kernel) hown hK hP 0 rfl rfl 3 (by decide) (hts (.fieldLink RX5 89 "CobolDebuggerModel" "stops" "I") (by decide +kernel)) (fun _ h9 => h9) rfl dX5_caught_9 ?_
  refine lv_icmp_gt (tgt := 53) hx hb dX5_caught_12 (by decide) (fun c_12 => ?_) (fun c_12 => ?_)
  · refine lv_iconst (v := 0) hx hb dX5_caught_53 (by decide) ?_
    exact W.iret (v := 0) hx hb hr (fun t ht hW => ⟨⟨0, 0, rfl, Or.inl ⟨rfl, fun j hj => hnm j (by rw [i_lt, eit] at c_12; omega)⟩, by rw [ht]; exact hP, hD⟩, hS.F ht⟩) hS.2.2 dX5_caught_54
  · have hkn : k < mt.toInt.toNat := by rw [i_lt, eit] at c_12; omega
    have hin : vp_in i 21 := ix_r (by omega) (by omega)
    have ecl : i.toNatClampNeg = k + 1 := by rw [ei]; exact nI_clamp (by omega)
    refine lv_aload_n hx hb dX5_caught_15 rfl (lv_at hl 0 rfl) ?_
    refine va_get (D := (dC, dI)) (ci := 6) (v := .ref m8) (C := RX5) (T := TX5) (N := 27) hx hb hts (by decide +kernel) hown hK hP 0 rfl rfl 15 (by decide) (hts (.fieldLink RX5 33 "CobolDebuggerModel" "stopKinds" "[I") (by decide +kernel)) (fun _ h9 => h9) rfl dX5_caught_16 ?_
    refine lv_iload_n hx hb dX5_caught_19 rfl (lv_at hl 3 rfl) ?_
    refine va_iald hx hb hK hP 1 0 rfl rfl (i := i) hin dX5_caught_20 ?_
    refine lv_iconst (v := 4) hx hb dX5_caught_21 (by decide) ?_
    refine lv_icmp_ne (tgt := 47) hx hb dX5_caught_22 (by decide) (fun c_22 => ?_) (fun c_22 => ?_)
    · obtain ⟨i_1, e_i_1⟩ : ∃ y : Int32, y = i + 1 := ⟨_, rfl⟩
      refine lv_iinc (v := i_1) (lv' := [(3, .int i_1), (0, .ref m0), (1, .int co), (2, .int te)]) hx hb dX5_caught_47 hl (k := 3) rfl (by rw [e_i_1]; rfl) (by decide) rfl (fun ls hl => ?_)
      refine lv_goto (tgt := 7) hx hb dX5_caught_50 (by decide) ?_
      exact ih i_1 (k + 1) _ _ _ ⟨lv_sub hl [1, 2, 3, 0] rfl, hP, hD, hS, by rw [e_i_1, ei]; exact nI_1 (k + 1), lt_s hnm (fun h => c_22 (by rw [ecl]; exact h.1)), Nat.succ_le_of_lt hkn⟩ (by omega)
    · refine lv_aload_n hx hb dX5_caught_25 rfl (lv_at hl 0 rfl) ?_
      refine va_get (D := (dC, dI)) (ci := 6) (v := .ref m9) (C := RX5) (T := TX5) (N := 27) hx hb hts (by decide +kernel) hown hK hP 0 rfl rfl 16 (by decide) (hts (.fieldLink RX5 36 "CobolDebuggerModel" "ofs" "[I") (by decide +kernel)) (fun _ h9 => h9) rfl dX5_caught_26 ?_
      refine lv_iload_n hx hb dX5_caught_29 rfl (lv_at hl 3 rfl) ?_
      refine va_iald hx hb hK hP 2 1 rfl rfl (i := i) hin dX5_caught_30 ?_
      refine lv_iload_n hx hb dX5_caught_31 rfl (lv_at hl 1 rfl) ?_
      refine lv_icmp_ne (tgt := 47) hx hb dX5_caught_32 (by decide) (fun c_32 => ?_) (fun c_32 => ?_)
      · obtain ⟨i_2, e_i_2⟩ : ∃ y : Int32, y = i + 1 := ⟨_, rfl⟩
        refine lv_iinc (v := i_2) (lv' := [(3, .int i_2), (0, .ref m0), (1, .int co), (2, .int te)]) hx hb dX5_caught_47 hl (k := 3) rfl (by rw [e_i_2]; rfl) (by decide) rfl (fun ls hl => ?_)
        refine lv_goto (tgt := 7) hx hb dX5_caught_50 (by decide) ?_
        exact ih i_2 (k + 1) _ _ _ ⟨lv_sub hl [1, 2, 3, 0] rfl, hP, hD, hS, by rw [e_i_2, ei]; exact nI_1 (k + 1), lt_s hnm (fun h => c_32 (by rw [ecl]; exact h.2.1)), Nat.succ_le_of_lt hkn⟩ (by omega)
      · refine lv_aload_n hx hb dX5_caught_35 rfl (lv_at hl 0 rfl) ?_
        refine va_get (D := (dC, dI)) (ci := 6) (v := .ref m10) (C := RX5) (T := TX5) (N := 27) hx hb hts (by decide +kernel) hown hK hP 0 rfl rfl 17 (by decide) (hts (.fieldLink RX5 39 "CobolDebuggerModel" "conditions" "[I") (by decide +kernel)) (fun _ h9 => h9) rfl dX5_caught_36 ?_
        refine lv_iload_n hx hb dX5_caught_39 rfl (lv_at hl 3 rfl) ?_
        refine va_iald hx hb hK hP 3 2 rfl rfl (i := i) hin dX5_caught_40 ?_
        refine lv_iload_n hx hb dX5_caught_41 rfl (lv_at hl 2 rfl) ?_
        refine lv_icmp_ne (tgt := 47) hx hb dX5_caught_42 (by decide) (fun c_42 => ?_) (fun c_42 => ?_)
        · obtain ⟨i_3, e_i_3⟩ : ∃ y : Int32, y = i + 1 := ⟨_, rfl⟩
          refine lv_iinc (v := i_3) (lv' := [(3, .int i_3), (0, .ref m0), (1, .int co), (2, .int te)]) hx hb dX5_caught_47 hl (k := 3) rfl (by rw [e_i_3]; rfl) (by decide) rfl (fun ls hl => ?_)
          refine lv_goto (tgt := 7) hx hb dX5_caught_50 (by decide) ?_
          exact ih i_3 (k + 1) _ _ _ ⟨lv_sub hl [1, 2, 3, 0] rfl, hP, hD, hS, by rw [e_i_3, ei]; exact nI_1 (k + 1), lt_s hnm (fun h => c_42 (by rw [ecl]; exact h.2.2)), Nat.succ_le_of_lt hkn⟩ (by omega)
        · refine lv_iload_n hx hb dX5_caught_45 rfl (lv_at hl 3 rfl) ?_
          exact W.iret (v := i) hx hb hr (fun t ht hW => ⟨⟨i, 0, rfl, Or.inr ⟨k, hkn, ei, by show mkd (k + 1) = 4 ∧ mof (k + 1) = co ∧ mcd (k + 1) = te; rw [← ecl]; exact ⟨c_22, c_32, c_42⟩, hnm⟩, by rw [ht]; exact hP, hD⟩, hS.F ht⟩) hS.2.2 dX5_caught_46

set_option maxHeartbeats 4000000 in
set_option maxRecDepth 100000 in
theorem g_X5_back (l : Launch) (dC : Nat → ClassId) (dI : Nat → Nat → Nat) (sz : Nat) (m0 m1 m2 m3 m4 m5 m6 m7 m8 m9 m10 m11 m12 m13 m14 m15 m16 m17 m18 m19 : Nat) (km1 km7 km11 km12 km13 km14 km15 km16 km17 km18 km19 : ClassId) (mpg mbs mct mpf men mka mki mko mkp mke mkb : Nat → Int32) (ce ms mi mt ma mf mk mp : Int32) (n : Int32) (hs1 : ms.toInt ≤ 100) (hpg : ∀ j, 0 ≤ (mpg j).toInt ∧ (mpg j).toInt < 20) (hr9 : mrI ms ma mp mk mbs mpf mka mki mko mkp) : Met l yX5_back wsX5_back ({ frames := 0, cells := 0, slots := 0, locals := 0 }) (va_Pc [.ref m0, .int n] (fun U => U.heap.size = sz ∧ va_P (dC, dI) vwCl [(m0, .inr (6, [.int ce, .int ms, .int mi, .int mt, .int ma, .int mf, .int mk, .int mp, .ref m1, .ref m2, .ref m3, .ref m4, .ref m5, .ref m6, .ref m7, .ref m8, .ref m9, .ref m10, .ref m11, .ref m12, .ref m13, .ref m14, .ref m15, .ref m16, .ref m17, .ref m18, .ref m19])), (m1, .inl (km1, 102, .inl mpg)), (m7, .inl (km7, 270, .inl mbs)), (m11, .inl (km11, 20, .inl mct)), (m12, .inl (km12, 20, .inl mpf)), (m13, .inl (km13, 20, .inl men)), (m14, .inl (km14, 300, .inl mka)), (m15, .inl (km15, 300, .inl mki)), (m16, .inl (km16, 300, .inl mko)), (m17, .inl (km17, 6000, .inl mkp)), (m18, .inl (km18, 6000, .inl mke)), (m19, .inl (km19, 2700, .inl mkb))] U.heap ∧ va_K (dC, dI) vwCl [(km1, .int), (km7, .byte), (km11, .int), (km12, .int), (km13, .int), (km14, .int), (km15, .int), (km16, .int), (km17, .int), (km18, .int), (km19, .byte)] U ∧ va_D (fun _ => True) [(m0, .inr (6, [.int ce, .int ms, .int mi, .int mt, .int ma, .int mf, .int mk, .int mp, .ref m1, .ref m2, .ref m3, .ref m4, .ref m5, .ref m6, .ref m7, .ref m8, .ref m9, .ref m10, .ref m11, .ref m12, .ref m13, .ref m14, .ref m15, .ref m16, .ref m17, .ref m18, .ref m19])), (m1, .inl (km1, 102, .inl mpg)), (m7, .inl (km7, 270, .inl mbs)), (m11, .inl (km11, 20, .inl mct)), (m12, .inl (km12, 20, .inl mpf)), (m13, .inl (km13, 20, .inl men)), (m14, .inl (km14, 300, .inl mka)), (m15, .inl (km15, 300, .inl mki)), (m16, .inl (km16, 300, .inl mko)), (m17, .inl (km17, 6000, .inl mkp)), (m18, .inl (km18, 6000, .inl mke)), (m19, .inl (km19, 2700, .inl mkb))])) (va_Qi (fun (r : Int32) (u : Int32 × Int32 × Int32 × Int32 × (Nat → Int32) × (Nat → Int32) × (Nat → Int32) × (Nat → Int32)) => mrI ms (u.2.1) (u.2.2.2.1) (u.2.2.1) (u.2.2.2.2.1) (u.2.2.2.2.2.2.1) mka mki mko mkp) (fun (u : Int32 × Int32 × Int32 × Int32 × (Nat → Int32) × (Nat → Int32) × (Nat → Int32) × (Nat → Int32)) (t : State) => va_P (dC, dI) vwCl [(m0, .inr (6, [.int u.1, .int ms, .int mi, .int mt, .int u.2.1, .int mf, .int u.2.2.1, .int u.2.2.2.1, .ref m1, .ref m2, .ref m3, .ref m4, .ref m5, .ref m6, .ref m7, .ref m8, .ref m9, .ref m10, .ref m11, .ref m12, .ref m13, .ref m14, .ref m15, .ref m16, .ref m17, .ref m18, .ref m19])), (m1, .inl (km1, 102, .inl mpg)), (m7, .inl (km7, 270, .inl u.2.2.2.2.1)), (m11, .inl (km11, 20, .inl u.2.2.2.2.2.1)), (m12, .inl (km12, 20, .inl u.2.2.2.2.2.2.1)), (m13, .inl (km13, 20, .inl u.2.2.2.2.2.2.2)), (m14, .inl (km14, 300, .inl mka)), (m15, .inl (km15, 300, .inl mki)), (m16, .inl (km16, 300, .inl mko)), (m17, .inl (km17, 6000, .inl mkp)), (m18, .inl (km18, 6000, .inl mke)), (m19, .inl (km19, 2700, .inl mkb))] t.heap ∧ va_D (va_A [(m0, .inr (6, [.int ce, .int ms, .int mi, .int mt, .int ma, .int mf, .int mk, .int mp, .ref m1, .ref m2, .ref m3, .ref m4, .ref m5, .ref m6, .ref m7, .ref m8, .ref m9, .ref m10, .ref m11, .ref m12, .ref m13, .ref m14, .ref m15, .ref m16, .ref m17, .ref m18, .ref m19])), (m1, .inl (km1, 102, .inl mpg)), (m7, .inl (km7, 270, .inl mbs)), (m11, .inl (km11, 20, .inl mct)), (m12, .inl (km12, 20, .inl mpf)), (m13, .inl (km13, 20, .inl men)), (m14, .inl (km14, 300, .inl mka)), (m15, .inl (km15, 300, .inl mki)), (m16, .inl (km16, 300, .inl mko)), (m17, .inl (km17, 6000, .inl mkp)), (m18, .inl (km18, 6000, .inl mke)), (m19, .inl (km19, 2700, .inl mkb))] sz) [(m0, .inr (6, [.int u.1, .int ms, .int mi, .int mt, .int u.2.1, .int mf, .int u.2.2.1, .int u.2.2.2.1, .ref m1, .ref m2, .ref m3, .ref m4, .ref m5, .ref m6, .ref m7, .ref m8, .ref m9, .ref m10, .ref m11, .ref m12, .ref m13, .ref m14, .ref m15, .ref m16, .ref m17, .ref m18, .ref m19])), (m1, .inl (km1, 102, .inl mpg)), (m7, .inl (km7, 270, .inl u.2.2.2.2.1)), (m11, .inl (km11, 20, .inl u.2.2.2.2.2.1)), (m12, .inl (km12, 20, .inl u.2.2.2.2.2.2.1)), (m13, .inl (km13, 20, .inl u.2.2.2.2.2.2.2)), (m14, .inl (km14, 300, .inl mka)), (m15, .inl (km15, 300, .inl mki)), (m16, .inl (km16, 300, .inl mko)), (m17, .inl (km17, 6000, .inl mkp)), (m18, .inl (km18, 6000, .inl mke)), (m19, .inl (km19, 2700, .inl mkb))]) (va_A [(m0, .inr (6, [.int ce, .int ms, .int mi, .int mt, .int ma, .int mf, .int mk, .int mp, .ref m1, .ref m2, .ref m3, .ref m4, .ref m5, .ref m6, .ref m7, .ref m8, .ref m9, .ref m10, .ref m11, .ref m12, .ref m13, .ref m14, .ref m15, .ref m16, .ref m17, .ref m18, .ref m19])), (m1, .inl (km1, 102, .inl mpg)), (m7, .inl (km7, 270, .inl mbs)), (m11, .inl (km11, 20, .inl mct)), (m12, .inl (km12, 20, .inl mpf)), (m13, .inl (km13, 20, .inl men)), (m14, .inl (km14, 300, .inl mka)), (m15, .inl (km15, 300, .inl mki)), (m16, .inl (km16, 300, .inl mko)), (m17, .inl (km17, 6000, .inl mkp)), (m18, .inl (km18, 6000, .inl mke)), (m19, .inl (km19, 2700, .inl mkb))] sz)) 0 0 (va_A [(m0, .inr (6, [.int ce, .int ms, .int mi, .int mt, .int ma, .int mf, .int mk, .int mp, .ref m1, .ref m2, .ref m3, .ref m4, .ref m5, .ref m6, .ref m7, .ref m8, .ref m9, .ref m10, .ref m11, .ref m12, .ref m13, .ref m14, .ref m15, .ref m16, .ref m17, .ref m18, .ref m19])), (m1, .inl (km1, 102, .inl mpg)), (m7, .inl (km7, 270, .inl mbs)), (m11, .inl (km11, 20, .inl mct)), (m12, .inl (km12, 20, .inl mpf)), (m13, .inl (km13, 20, .inl men)), (m14, .inl (km14, 300, .inl mka)), (m15, .inl (km15, 300, .inl mki)), (m16, .inl (km16, 300, .inl mko)), (m17, .inl (km17, 6000, .inl mkp)), (m18, .inl (km18, 6000, .inl mke)), (m19, .inl (km19, 2700, .inl mkb))] sz) := by
  refine Met.ofW (cc := cX5_back) (maxL := 4) (ret := (some .int)) (by decide) rfl ?_
  intro p e s m args below meth c s₁ B hml hv
  obtain ⟨rfl, hsz, hP, hK, hD0⟩ := hv
  have hx := B.exec
  have hb := B.bytes
  have hr := B.returns
  have hts := atoms_spec (ws := wsX5_back) B.pre
  have hown : s.vm.findClass RX5 = some m.cls := findClass_of_methodNamed B.named
  have hlocks := B.notSynchronized
  subst hsz
  have hD := hD0.self (sz := s.heap.size)
  generalize hAe : va_A [(m0, .inr (6, [.int ce, .int ms, .int mi, .int mt, .int ma, .int mf, .int mk, .int mp, .ref m1, .ref m2, .ref m3, .ref m4, .ref m5, .ref m6, .ref m7, .ref m8, .ref m9, .ref m10, .ref m11, .ref m12, .ref m13, .ref m14, .ref m15, .ref m16, .ref m17, .ref m18, .ref m19])), (m1, .inl (km1, 102, .inl mpg)), (m7, .inl (km7, 270, .inl mbs)), (m11, .inl (km11, 20, .inl mct)), (m12, .inl (km12, 20, .inl mpf)), (m13, .inl (km13, 20, .inl men)), (m14, .inl (km14, 300, .inl mka)), (m15, .inl (km15, 300, .inl mki)), (m16, .inl (km16, 300, .inl mko)), (m17, .inl (km17, 6000, .inl mkp)), (m18, .inl (km18, 6000, .inl mke)), (m19, .inl (km19, 2700, .inl mkb))] s.heap.size = A at hD ⊢
  have hA : ∀ q : Nat, s.heap.size ≤ q → A q := fun q h => by rw [← hAe]; exact Or.inr h
  have hS : va_S A s.heap s.heap [] := va_S.rf
  have hl := lv_entry ([.ref m0, .int n]) (n := 4) (Nat.le_of_ble_eq_true rfl)
  rw [lg_entry_eq]
  generalize (lg_sl ([.ref m0, .int n]) ++ List.replicate (4 - (lg_sl ([.ref m0, .int n])).length) Slot.unset).toArray = ls at hl ⊢
  have hl : lv_has ls 4 [(0, .ref m0), (1, .int n)] := hl
  refine lv_aload_n hx hb dX5_back_0 rfl (lv_at hl 0 rfl) ?_
  refine lv_iconst (v := 0) hx hb dX5_back_1 (by decide) ?_
  refine va_put (D := (dC, dI)) (ci := 6) (v := .int 0) (ty := .int) (C := RX5) (T := TX5) (N := 27) hx hb hts (by decide +kernel) tyX5 tyX5_ok nmX5 hown hK hP hD hS 0 rfl rfl 0 (by decide) (hts (.fieldLink RX5 69 "CobolDebuggerModel" "code" "I") (by decide +kernel)) (fun _ h9 => h9) rfl (by decide +kernel) rfl rfl (Nat.le_of_ble_eq_true rfl) dX5_back_2 (fun H locs hP hD hS => ?_)
  have hP : va_P (dC, dI) vwCl [(m0, .inr (6, [.int 0, .int ms, .int mi, .int mt, .int ma, .int mf, .int mk, .int mp, .ref m1, .ref m2, .ref m3, .ref m4, .ref m5, .ref m6, .ref m7, .ref m8, .ref m9, .ref m10, .ref m11, .ref m12, .ref m13, .ref m14, .ref m15, .ref m16, .ref m17, .ref m18, .ref m19])), (m1, .inl (km1, 102, .inl mpg)), (m7, .inl (km7, 270, .inl mbs)), (m11, .inl (km11, 20, .inl mct)), (m12, .inl (km12, 20, .inl mpf)), (m13, .inl (km13, 20, .inl men)), (m14, .inl (km14, 300, .inl mka)), (m15, .inl (km15, 300, .inl mki)), (m16, .inl (km16, 300, .inl mko)), (m17, .inl (km17, 6000, .inl mkp)), (m18, .inl (km18, 6000, .inl mke)), (m19, .inl (km19, 2700, .inl mkb))] H := hP
  have hD : va_D A [(m0, .inr (6, [.int 0, .int ms, .int mi, .int mt, .int ma, .int mf, .int mk, .int mp, .ref m1, .ref m2, .ref m3, .ref m4, .ref m5, .ref m6, .ref m7, .ref m8, .ref m9, .ref m10, .ref m11, .ref m12, .ref m13, .ref m14, .ref m15, .ref m16, .ref m17, .ref m18, .ref m19])), (m1, .inl (km1, 102, .inl mpg)), (m7, .inl (km7, 270, .inl mbs)), (m11, .inl (km11, 20, .inl mct)), (m12, .inl (km12, 20, .inl mpf)), (m13, .inl (km13, 20, .inl men)), (m14, .inl (km14, 300, .inl mka)), (m15, .inl (km15, 300, .inl mki)), (m16, .inl (km16, 300, .inl mko)), (m17, .inl (km17, 6000, .inl mkp)), (m18, .inl (km18, 6000, .inl mke)), (m19, .inl (km19, 2700, .inl mkb))] := hD
  refine lv_iload_n hx hb dX5_back_5 rfl (lv_at hl 1 rfl) ?_
  refine lv_if_lt (tgt := 17) hx hb dX5_back_6 (by decide) (fun c_6 => ?_) (fun c_6 => ?_)
  · refine lv_bipush (v := (-4)) hx hb dX5_back_17 (by decide) ?_
    exact W.iret (v := (-4)) hx hb hr (fun t ht hW => ⟨⟨(-4), (0, ma, mk, mp, mbs, mct, mpf, men), rfl, hr9, by rw [ht]; exact hP, hD⟩, hS.F ht⟩) hS.2.2 dX5_back_19
  · refine lv_iload_n hx hb dX5_back_9 rfl (lv_at hl 1 rfl) ?_
    refine lv_aload_n hx hb dX5_back_10 rfl (lv_at hl 0 rfl) ?_
    refine va_get (D := (dC, dI)) (ci := 6) (v := .int mk) (C := RX5) (T := TX5) (N := 27) hx hb hts (by decide +kernel) hown hK hP 0 rfl rfl 6 (by decide) (hts (.fieldLink RX5 113 "CobolDebuggerModel" "kept" "I") (by decide +kernel)) (fun _ h9 => h9) rfl dX5_back_11 ?_
    refine lv_icmp_le (tgt := 20) hx hb dX5_back_14 (by decide) (fun c_14 => ?_) (fun c_14 => ?_)
    · refine lv_iconst (v := 0) hx hb dX5_back_20 (by decide) ?_
      refine lv_istore_n (lv' := [(2, .int 0), (0, .ref m0), (1, .int n)]) hx hb dX5_back_21 rfl hl (by decide) rfl (fun ls hl => ?_)
      refine wl8 (μ := fun (i : Int32) (max : Int32) (mkx : Int32) (mpx : Int32) (mbsx : Nat → Int32) (mctx : Nat → Int32) (mpfx : Nat → Int32) (menx : Nat → Int32) => (n.toInt - i.toInt).toNat) (I := fun (i : Int32) (max : Int32) (mkx : Int32) (mpx : Int32) (mbsx : Nat → Int32) (mctx : Nat → Int32) (mpfx : Nat → Int32) (menx : Nat → Int32) (ls : Array Slot) (H : Heap) (locs : List Loc) => lv_has ls 4 [(0, .ref m0), (1, .int n), (2, .int i)] ∧ va_P (dC, dI) vwCl [(m0, .inr (6, [.int 0, .int ms, .int mi, .int mt, .int max, .int mf, .int mkx, .int mpx, .ref m1, .ref m2, .ref m3, .ref m4, .ref m5, .ref m6, .ref m7, .ref m8, .ref m9, .ref m10, .ref m11, .ref m12, .ref m13, .ref m14, .ref m15, .ref m16, .ref m17, .ref m18, .ref m19])), (m1, .inl (km1, 102, .inl mpg)), (m7, .inl (km7, 270, .inl mbsx)), (m11, .inl (km11, 20, .inl mctx)), (m12, .inl (km12, 20, .inl mpfx)), (m13, .inl (km13, 20, .inl menx)), (m14, .inl (km14, 300, .inl mka)), (m15, .inl (km15, 300, .inl mki)), (m16, .inl (km16, 300, .inl mko)), (m17, .inl (km17, 6000, .inl mkp)), (m18, .inl (km18, 6000, .inl mke)), (m19, .inl (km19, 2700, .inl mkb))] H ∧ va_D A [(m0, .inr (6, [.int 0, .int ms, .int mi, .int mt, .int max, .int mf, .int mkx, .int mpx, .ref m1, .ref m2, .ref m3, .ref m4, .ref m5, .ref m6, .ref m7, .ref m8, .ref m9, .ref m10, .ref m11, .ref m12, .ref m13, .ref m14, .ref m15, .ref m16, .ref m17, .ref m18, .ref m19])), (m1, .inl (km1, 102, .inl mpg)), (m7, .inl (km7, 270, .inl mbsx)), (m11, .inl (km11, 20, .inl mctx)), (m12, .inl (km12, 20, .inl mpfx)), (m13, .inl (km13, 20, .inl menx)), (m14, .inl (km14, 300, .inl mka)), (m15, .inl (km15, 300, .inl mki)), (m16, .inl (km16, 300, .inl mko)), (m17, .inl (km17, 6000, .inl mkp)), (m18, .inl (km18, 6000, .inl mke)), (m19, .inl (km19, 2700, .inl mkb))] ∧ va_S A s.heap H locs ∧ (0 ≤ i.toInt) ∧ (mrI ms max mpx mkx mbsx mpfx mka mki mko mkp) ∧ (mkx.toInt = mk.toInt - i.toInt)) (fun i max mkx mpx mbsx mctx mpfx menx ls H locs hI ih_22 => ?_) 0 ma mk mp mbs mct mpf men ls _ _ ⟨lv_sub hl [1, 2, 0] rfl, hP, hD, hS, by decide, hr9, by rw [Int32.toInt_zero]; omega⟩
      obtain ⟨hl, hP, hD, hS, hi0, hrx, hkk⟩ := hI
      refine lv_iload_n hx hb dX5_back_22 rfl (lv_at hl 2 rfl) ?_
      refine lv_iload_n hx hb dX5_back_23 rfl (lv_at hl 1 rfl) ?_
      refine lv_icmp_ge (tgt := 200) hx hb dX5_back_24 (by decide) (fun c_24 => ?_) (fun c_24 => ?_)
      · refine lv_aload_n hx hb dX5_back_200 rfl (lv_at hl 0 rfl) ?_
        refine va_get (D := (dC, dI)) (ci := 6) (v := .int max) (C := RX5) (T := TX5) (N := 27) hx hb hts (by decide +kernel) hown hK hP 0 rfl rfl 4 (by decide) (hts (.fieldLink RX5 79 "CobolDebuggerModel" "at" "I") (by decide +kernel)) (fun _ h9 => h9) rfl dX5_back_201 ?_
        exact W.iret (v := max) hx hb hr (fun t ht hW => ⟨⟨max, (0, max, mkx, mpx, mbsx, mctx, mpfx, menx), rfl, hrx, by rw [ht]; exact hP, hD⟩, hS.F ht⟩) hS.2.2 dX5_back_204
      · obtain ⟨hma0, hma1, hp0, hp1, hk0, hk1, hfb, hpf, hka, hki, hko, hkp⟩ := id hrx
        have hlt := n_lt c_24
        have hnk : n.toInt ≤ mk.toInt := by rw [i_le] at c_14; exact c_14
        refine lv_aload_n hx hb dX5_back_27 rfl (lv_at hl 0 rfl) ?_
        refine lv_dup hx hb dX5_back_28 rfl ?_
        refine va_get (D := (dC, dI)) (ci := 6) (v := .int mkx) (C := RX5) (T := TX5) (N := 27) hx hb hts (by decide +kernel) hown hK hP 0 rfl rfl 6 (by decide) (hts (.fieldLink RX5 113 "CobolDebuggerModel" "kept" "I") (by decide +kernel)) (fun _ h9 => h9) rfl dX5_back_29 ?_
        refine lv_iconst (v := 1) hx hb dX5_back_32 (by decide) ?_
        refine lv_isub hx hb dX5_back_33 ?_
        refine lv_topi (fun v_1 e_v_1 => ?_)
        refine va_put (D := (dC, dI)) (ci := 6) (v := .int v_1) (ty := .int) (C := RX5) (T := TX5) (N := 27) hx hb hts (by decide +kernel) tyX5 tyX5_ok nmX5 hown hK hP hD hS 0 rfl rfl 6 (by decide) (hts (.fieldLink RX5 113 "CobolDebuggerModel" "kept" "I") (by decide +kernel)) (fun _ h9 => h9) rfl (by decide +kernel) rfl rfl (Nat.le_of_ble_eq_true rfl) dX5_back_34 (fun H locs hP hD hS => ?_)
        have hP : va_P (dC, dI) vwCl [(m0, .inr (6, [.int 0, .int ms, .int mi, .int mt, .int max, .int mf, .int v_1, .int mpx, .ref m1, .ref m2, .ref m3, .ref m4, .ref m5, .ref m6, .ref m7, .ref m8, .ref m9, .ref m10, .ref m11, .ref m12, .ref m13, .ref m14, .ref m15, .ref m16, .ref m17, .ref m18, .ref m19])), (m1, .inl (km1, 102, .inl mpg)), (m7, .inl (km7, 270, .inl mbsx)), (m11, .inl (km11, 20, .inl mctx)), (m12, .inl (km12, 20, .inl mpfx)), (m13, .inl (km13, 20, .inl menx)), (m14, .inl (km14, 300, .inl mka)), (m15, .inl (km15, 300, .inl mki)), (m16, .inl (km16, 300, .inl mko)), (m17, .inl (km17, 6000, .inl mkp)), (m18, .inl (km18, 6000, .inl mke)), (m19, .inl (km19, 2700, .inl mkb))] H := hP
        have hD : va_D A [(m0, .inr (6, [.int 0, .int ms, .int mi, .int mt, .int max, .int mf, .int v_1, .int mpx, .ref m1, .ref m2, .ref m3, .ref m4, .ref m5, .ref m6, .ref m7, .ref m8, .ref m9, .ref m10, .ref m11, .ref m12, .ref m13, .ref m14, .ref m15, .ref m16, .ref m17, .ref m18, .ref m19])), (m1, .inl (km1, 102, .inl mpg)), (m7, .inl (km7, 270, .inl mbsx)), (m11, .inl (km11, 20, .inl mctx)), (m12, .inl (km12, 20, .inl mpfx)), (m13, .inl (km13, 20, .inl menx)), (m14, .inl (km14, 300, .inl mka)), (m15, .inl (km15, 300, .inl mki)), (m16, .inl (km16, 300, .inl mko)), (m17, .inl (km17, 6000, .inl mkp)), (m18, .inl (km18, 6000, .inl mke)), (m19, .inl (km19, 2700, .inl mkb))] := hD
        have hkv : v_1.toInt = mkx.toInt - 1 := by rw [e_v_1, i_s1 (by omega)]
        have hkx : vp_in v_1 300 := ix_r (by omega) (by omega)
        refine lv_aload_n hx hb dX5_back_37 rfl (lv_at hl 0 rfl) ?_
        refine lv_aload_n hx hb dX5_back_38 rfl (lv_at hl 0 rfl) ?_
        refine va_get (D := (dC, dI)) (ci := 6) (v := .ref m14) (C := RX5) (T := TX5) (N := 27) hx hb hts (by decide +kernel) hown hK hP 0 rfl rfl 21 (by decide) (hts (.fieldLink RX5 51 "CobolDebuggerModel" "keptAt" "[I") (by decide +kernel)) (fun _ h9 => h9) rfl dX5_back_39 ?_
        refine lv_aload_n hx hb dX5_back_42 rfl (lv_at hl 0 rfl) ?_
        refine va_get (D := (dC, dI)) (ci := 6) (v := .int v_1) (C := RX5) (T := TX5) (N := 27) hx hb hts (by decide +kernel) hown hK hP 0 rfl rfl 6 (by decide) (hts (.fieldLink RX5 113 "CobolDebuggerModel" "kept" "I") (by decide +kernel)) (fun _ h9 => h9) rfl dX5_back_43 ?_
        refine va_iald hx hb hK hP 6 5 rfl rfl (i := v_1) hkx dX5_back_46 ?_
        refine lv_topi (fun v_2 e_v_2 => ?_)
        refine va_put (D := (dC, dI)) (ci := 6) (v := .int v_2) (ty := .int) (C := RX5) (T := TX5) (N := 27) hx hb hts (by decide +kernel) tyX5 tyX5_ok nmX5 hown hK hP hD hS 0 rfl rfl 4 (by decide) (hts (.fieldLink RX5 79 "CobolDebuggerModel" "at" "I") (by decide +kernel)) (fun _ h9 => h9) rfl (by decide +kernel) rfl rfl (Nat.le_of_ble_eq_true rfl) dX5_back_47 (fun H locs hP hD hS => ?_)
        have hP : va_P (dC, dI) vwCl [(m0, .inr (6, [.int 0, .int ms, .int mi, .int mt, .int v_2, .int mf, .int v_1, .int mpx, .ref m1, .ref m2, .ref m3, .ref m4, .ref m5, .ref m6, .ref m7, .ref m8, .ref m9, .ref m10, .ref m11, .ref m12, .ref m13, .ref m14, .ref m15, .ref m16, .ref m17, .ref m18, .ref m19])), (m1, .inl (km1, 102, .inl mpg)), (m7, .inl (km7, 270, .inl mbsx)), (m11, .inl (km11, 20, .inl mctx)), (m12, .inl (km12, 20, .inl mpfx)), (m13, .inl (km13, 20, .inl menx)), (m14, .inl (km14, 300, .inl mka)), (m15, .inl (km15, 300, .inl mki)), (m16, .inl (km16, 300, .inl mko)), (m17, .inl (km17, 6000, .inl mkp)), (m18, .inl (km18, 6000, .inl mke)), (m19, .inl (km19, 2700, .inl mkb))] H := hP
        have hD : va_D A [(m0, .inr (6, [.int 0, .int ms, .int mi, .int mt, .int v_2, .int mf, .int v_1, .int mpx, .ref m1, .ref m2, .ref m3, .ref m4, .ref m5, .ref m6, .ref m7, .ref m8, .ref m9, .ref m10, .ref m11, .ref m12, .ref m13, .ref m14, .ref m15, .ref m16, .ref m17, .ref m18, .ref m19])), (m1, .inl (km1, 102, .inl mpg)), (m7, .inl (km7, 270, .inl mbsx)), (m11, .inl (km11, 20, .inl mctx)), (m12, .inl (km12, 20, .inl mpfx)), (m13, .inl (km13, 20, .inl menx)), (m14, .inl (km14, 300, .inl mka)), (m15, .inl (km15, 300, .inl mki)), (m16, .inl (km16, 300, .inl mko)), (m17, .inl (km17, 6000, .inl mkp)), (m18, .inl (km18, 6000, .inl mke)), (m19, .inl (km19, 2700, .inl mkb))] := hD
        have hav : 0 ≤ v_2.toInt ∧ v_2.toInt ≤ ms.toInt := by rw [e_v_2]; exact hka _
        have hax : vp_in v_2 102 := ix_r hav.1 (by omega)
        refine lv_aload_n hx hb dX5_back_50 rfl (lv_at hl 0 rfl) ?_
        refine lv_aload_n hx hb dX5_back_51 rfl (lv_at hl 0 rfl) ?_
        refine va_get (D := (dC, dI)) (ci := 6) (v := .ref m16) (C := RX5) (T := TX5) (N := 27) hx hb hts (by decide +kernel) hown hK hP 0 rfl rfl 23 (by decide) (hts (.fieldLink RX5 57 "CobolDebuggerModel" "keptOpen" "[I") (by decide +kernel)) (fun _ h9 => h9) rfl dX5_back_52 ?_
        refine lv_aload_n hx hb dX5_back_55 rfl (lv_at hl 0 rfl) ?_
        refine va_get (D := (dC, dI)) (ci := 6) (v := .int v_1) (C := RX5) (T := TX5) (N := 27) hx hb hts (by decide +kernel) hown hK hP 0 rfl rfl 6 (by decide) (hts (.fieldLink RX5 113 "CobolDebuggerModel" "kept" "I") (by decide +kernel)) (fun _ h9 => h9) rfl dX5_back_56 ?_
        refine va_iald hx hb hK hP 8 7 rfl rfl (i := v_1) hkx dX5_back_59 ?_
        refine lv_topi (fun v_3 e_v_3 => ?_)
        refine va_put (D := (dC, dI)) (ci := 6) (v := .int v_3) (ty := .int) (C := RX5) (T := TX5) (N := 27) hx hb hts (by decide +kernel) tyX5 tyX5_ok nmX5 hown hK hP hD hS 0 rfl rfl 7 (by decide) (hts (.fieldLink RX5 116 "CobolDebuggerModel" "open" "I") (by decide +kernel)) (fun _ h9 => h9) rfl (by decide +kernel) rfl rfl (Nat.le_of_ble_eq_true rfl) dX5_back_60 (fun H locs hP hD hS => ?_)
        have hP : va_P (dC, dI) vwCl [(m0, .inr (6, [.int 0, .int ms, .int mi, .int mt, .int v_2, .int mf, .int v_1, .int v_3, .ref m1, .ref m2, .ref m3, .ref m4, .ref m5, .ref m6, .ref m7, .ref m8, .ref m9, .ref m10, .ref m11, .ref m12, .ref m13, .ref m14, .ref m15, .ref m16, .ref m17, .ref m18, .ref m19])), (m1, .inl (km1, 102, .inl mpg)), (m7, .inl (km7, 270, .inl mbsx)), (m11, .inl (km11, 20, .inl mctx)), (m12, .inl (km12, 20, .inl mpfx)), (m13, .inl (km13, 20, .inl menx)), (m14, .inl (km14, 300, .inl mka)), (m15, .inl (km15, 300, .inl mki)), (m16, .inl (km16, 300, .inl mko)), (m17, .inl (km17, 6000, .inl mkp)), (m18, .inl (km18, 6000, .inl mke)), (m19, .inl (km19, 2700, .inl mkb))] H := hP
        have hD : va_D A [(m0, .inr (6, [.int 0, .int ms, .int mi, .int mt, .int v_2, .int mf, .int v_1, .int v_3, .ref m1, .ref m2, .ref m3, .ref m4, .ref m5, .ref m6, .ref m7, .ref m8, .ref m9, .ref m10, .ref m11, .ref m12, .ref m13, .ref m14, .ref m15, .ref m16, .ref m17, .ref m18, .ref m19])), (m1, .inl (km1, 102, .inl mpg)), (m7, .inl (km7, 270, .inl mbsx)), (m11, .inl (km11, 20, .inl mctx)), (m12, .inl (km12, 20, .inl mpfx)), (m13, .inl (km13, 20, .inl menx)), (m14, .inl (km14, 300, .inl mka)), (m15, .inl (km15, 300, .inl mki)), (m16, .inl (km16, 300, .inl mko)), (m17, .inl (km17, 6000, .inl mkp)), (m18, .inl (km18, 6000, .inl mke)), (m19, .inl (km19, 2700, .inl mkb))] := hD
        have hov : 0 ≤ v_3.toInt ∧ v_3.toInt ≤ 20 := by rw [e_v_3]; exact hko _
        refine lv_aload_n hx hb dX5_back_63 rfl (lv_at hl 0 rfl) ?_
        refine va_get (D := (dC, dI)) (ci := 6) (v := .ref m11) (C := RX5) (T := TX5) (N := 27) hx hb hts (by decide +kernel) hown hK hP 0 rfl rfl 18 (by decide) (hts (.fieldLink RX5 42 "CobolDebuggerModel" "counts" "[I") (by decide +kernel)) (fun _ h9 => h9) rfl dX5_back_64 ?_
        refine lv_aload_n hx hb dX5_back_67 rfl (lv_at hl 0 rfl) ?_
        refine va_get (D := (dC, dI)) (ci := 6) (v := .ref m1) (C := RX5) (T := TX5) (N := 27) hx hb hts (by decide +kernel) hown hK hP 0 rfl rfl 8 (by decide) (hts (.fieldLink RX5 7 "CobolDebuggerModel" "paragraphs" "[I") (by decide +kernel)) (fun _ h9 => h9) rfl dX5_back_68 ?_
        refine lv_aload_n hx hb dX5_back_71 rfl (lv_at hl 0 rfl) ?_
        refine va_get (D := (dC, dI)) (ci := 6) (v := .int v_2) (C := RX5) (T := TX5) (N := 27) hx hb hts (by decide +kernel) hown hK hP 0 rfl rfl 4 (by decide) (hts (.fieldLink RX5 79 "CobolDebuggerModel" "at" "I") (by decide +kernel)) (fun _ h9 => h9) rfl dX5_back_72 ?_
        refine va_iald hx hb hK hP 1 0 rfl rfl (i := v_2) hax dX5_back_75 ?_
        refine lv_topi (fun pa e_pa => ?_)
        have hpa : vp_in pa 20 := by rw [e_pa]; exact ix_r (hpg _).1 (hpg _).2
        refine lv_dup2_11 hx hb dX5_back_76 rfl rfl ?_
        refine va_iald hx hb hK hP 3 2 rfl rfl (i := pa) hpa dX5_back_77 ?_
        refine lv_iconst (v := 1) hx hb dX5_back_78 (by decide) ?_
        refine lv_isub hx hb dX5_back_79 ?_
        refine va_iast hx hb hK hP hD hS 3 2 rfl rfl (i := pa) hpa dX5_back_80 (fun H locs hP hD hS => ?_)
        have hP : va_P (dC, dI) vwCl [(m0, .inr (6, [.int 0, .int ms, .int mi, .int mt, .int v_2, .int mf, .int v_1, .int v_3, .ref m1, .ref m2, .ref m3, .ref m4, .ref m5, .ref m6, .ref m7, .ref m8, .ref m9, .ref m10, .ref m11, .ref m12, .ref m13, .ref m14, .ref m15, .ref m16, .ref m17, .ref m18, .ref m19])), (m1, .inl (km1, 102, .inl mpg)), (m7, .inl (km7, 270, .inl mbsx)), (m11, .inl (km11, 20, .inl (upd mctx pa.toNatClampNeg ((mctx pa.toNatClampNeg) - 1)))), (m12, .inl (km12, 20, .inl mpfx)), (m13, .inl (km13, 20, .inl menx)), (m14, .inl (km14, 300, .inl mka)), (m15, .inl (km15, 300, .inl mki)), (m16, .inl (km16, 300, .inl mko)), (m17, .inl (km17, 6000, .inl mkp)), (m18, .inl (km18, 6000, .inl mke)), (m19, .inl (km19, 2700, .inl mkb))] H := hP
        have hD : va_D A [(m0, .inr (6, [.int 0, .int ms, .int mi, .int mt, .int v_2, .int mf, .int v_1, .int v_3, .ref m1, .ref m2, .ref m3, .ref m4, .ref m5, .ref m6, .ref m7, .ref m8, .ref m9, .ref m10, .ref m11, .ref m12, .ref m13, .ref m14, .ref m15, .ref m16, .ref m17, .ref m18, .ref m19])), (m1, .inl (km1, 102, .inl mpg)), (m7, .inl (km7, 270, .inl mbsx)), (m11, .inl (km11, 20, .inl (upd mctx pa.toNatClampNeg ((mctx pa.toNatClampNeg) - 1)))), (m12, .inl (km12, 20, .inl mpfx)), (m13, .inl (km13, 20, .inl menx)), (m14, .inl (km14, 300, .inl mka)), (m15, .inl (km15, 300, .inl mki)), (m16, .inl (km16, 300, .inl mko)), (m17, .inl (km17, 6000, .inl mkp)), (m18, .inl (km18, 6000, .inl mke)), (m19, .inl (km19, 2700, .inl mkb))] := hD
        obtain ⟨g_4, e_g_4⟩ : ∃ y, y = upd mctx pa.toNatClampNeg ((mctx pa.toNatClampNeg) - 1) := ⟨_, rfl⟩
        rw [← e_g_4] at hP hD
        refine lv_iconst (v := 0) hx hb dX5_back_81 (by decide) ?_
        refine lv_istore_n (lv' := [(3, .int 0), (0, .ref m0), (1, .int n), (2, .int i)]) hx hb dX5_back_82 rfl hl (by decide) rfl (fun ls hl => ?_)
        refine wl3 (μ := fun (j : Int32) (py : Nat → Int32) (ey : Nat → Int32) => (20 - j.toInt).toNat) (I := fun (j : Int32) (py : Nat → Int32) (ey : Nat → Int32) (ls : Array Slot) (H : Heap) (locs : List Loc) => lv_has ls 4 [(0, .ref m0), (1, .int n), (2, .int i), (3, .int j)] ∧ va_P (dC, dI) vwCl [(m0, .inr (6, [.int 0, .int ms, .int mi, .int mt, .int v_2, .int mf, .int v_1, .int v_3, .ref m1, .ref m2, .ref m3, .ref m4, .ref m5, .ref m6, .ref m7, .ref m8, .ref m9, .ref m10, .ref m11, .ref m12, .ref m13, .ref m14, .ref m15, .ref m16, .ref m17, .ref m18, .ref m19])), (m1, .inl (km1, 102, .inl mpg)), (m7, .inl (km7, 270, .inl mbsx)), (m11, .inl (km11, 20, .inl g_4)), (m12, .inl (km12, 20, .inl py)), (m13, .inl (km13, 20, .inl ey)), (m14, .inl (km14, 300, .inl mka)), (m15, .inl (km15, 300, .inl mki)), (m16, .inl (km16, 300, .inl mko)), (m17, .inl (km17, 6000, .inl mkp)), (m18, .inl (km18, 6000, .inl mke)), (m19, .inl (km19, 2700, .inl mkb))] H ∧ va_D A [(m0, .inr (6, [.int 0, .int ms, .int mi, .int mt, .int v_2, .int mf, .int v_1, .int v_3, .ref m1, .ref m2, .ref m3, .ref m4, .ref m5, .ref m6, .ref m7, .ref m8, .ref m9, .ref m10, .ref m11, .ref m12, .ref m13, .ref m14, .ref m15, .ref m16, .ref m17, .ref m18, .ref m19])), (m1, .inl (km1, 102, .inl mpg)), (m7, .inl (km7, 270, .inl mbsx)), (m11, .inl (km11, 20, .inl g_4)), (m12, .inl (km12, 20, .inl py)), (m13, .inl (km13, 20, .inl ey)), (m14, .inl (km14, 300, .inl mka)), (m15, .inl (km15, 300, .inl mki)), (m16, .inl (km16, 300, .inl mko)), (m17, .inl (km17, 6000, .inl mkp)), (m18, .inl (km18, 6000, .inl mke)), (m19, .inl (km19, 2700, .inl mkb))] ∧ va_S A s.heap H locs ∧ (0 ≤ j.toInt) ∧ (∀ j, 0 ≤ (py j).toInt ∧ (py j).toInt ≤ ms.toInt)) (fun j py ey ls H locs hI ih_83 => ?_) 0 mpfx menx ls _ _ ⟨lv_sub hl [1, 2, 3, 0] rfl, hP, hD, hS, by decide, hpf⟩
        obtain ⟨hl, hP, hD, hS, hj0, hpy⟩ := hI
        refine lv_iload_n hx hb dX5_back_83 rfl (lv_at hl 3 rfl) ?_
        refine lv_bipush (v := 20) hx hb dX5_back_84 (by decide) ?_
        refine lv_icmp_ge (tgt := 135) hx hb dX5_back_86 (by decide) (fun c_86 => ?_) (fun c_86 => ?_)
        · refine lv_iconst (v := 0) hx hb dX5_back_135 (by decide) ?_
          refine lv_istore_n (lv' := [(3, .int 0), (0, .ref m0), (1, .int n), (2, .int i)]) hx hb dX5_back_136 rfl hl (by decide) rfl (fun ls hl => ?_)
          refine wl2 (μ := fun (q : Int32) (by9 : Nat → Int32) => (9 - q.toInt).toNat) (I := fun (q : Int32) (by9 : Nat → Int32) (ls : Array Slot) (H : Heap) (locs : List Loc) => lv_has ls 4 [(0, .ref m0), (1, .int n), (2, .int i), (3, .int q)] ∧ va_P (dC, dI) vwCl [(m0, .inr (6, [.int 0, .int ms, .int mi, .int mt, .int v_2, .int mf, .int v_1, .int v_3, .ref m1, .ref m2, .ref m3, .ref m4, .ref m5, .ref m6, .ref m7, .ref m8, .ref m9, .ref m10, .ref m11, .ref m12, .ref m13, .ref m14, .ref m15, .ref m16, .ref m17, .ref m18, .ref m19])), (m1, .inl (km1, 102, .inl mpg)), (m7, .inl (km7, 270, .inl by9)), (m11, .inl (km11, 20, .inl g_4)), (m12, .inl (km12, 20, .inl py)), (m13, .inl (km13, 20, .inl ey)), (m14, .inl (km14, 300, .inl mka)), (m15, .inl (km15, 300, .inl mki)), (m16, .inl (km16, 300, .inl mko)), (m17, .inl (km17, 6000, .inl mkp)), (m18, .inl (km18, 6000, .inl mke)), (m19, .inl (km19, 2700, .inl mkb))] H ∧ va_D A [(m0, .inr (6, [.int 0, .int ms, .int mi, .int mt, .int v_2, .int mf, .int v_1, .int v_3, .ref m1, .ref m2, .ref m3, .ref m4, .ref m5, .ref m6, .ref m7, .ref m8, .ref m9, .ref m10, .ref m11, .ref m12, .ref m13, .ref m14, .ref m15, .ref m16, .ref m17, .ref m18, .ref m19])), (m1, .inl (km1, 102, .inl mpg)), (m7, .inl (km7, 270, .inl by9)), (m11, .inl (km11, 20, .inl g_4)), (m12, .inl (km12, 20, .inl py)), (m13, .inl (km13, 20, .inl ey)), (m14, .inl (km14, 300, .inl mka)), (m15, .inl (km15, 300, .inl mki)), (m16, .inl (km16, 300, .inl mko)), (m17, .inl (km17, 6000, .inl mkp)), (m18, .inl (km18, 6000, .inl mke)), (m19, .inl (km19, 2700, .inl mkb))] ∧ va_S A s.heap H locs ∧ (0 ≤ q.toInt) ∧ (fitB by9)) (fun q by9 ls H locs hI ih_137 => ?_) 0 mbsx ls _ _ ⟨lv_sub hl [1, 2, 3, 0] rfl, hP, hD, hS, by decide, hfb⟩
          obtain ⟨hl, hP, hD, hS, hq0, hfy⟩ := hI
          refine lv_iload_n hx hb dX5_back_137 rfl (lv_at hl 3 rfl) ?_
          refine lv_bipush (v := 9) hx hb dX5_back_138 (by decide) ?_
          refine lv_icmp_ge (tgt := 194) hx hb dX5_back_140 (by decide) (fun c_140 => ?_) (fun c_140 => ?_)
          · obtain ⟨i_5, e_i_5⟩ : ∃ y : Int32, y = i + 1 := ⟨_, rfl⟩
            refine lv_iinc (v := i_5) (lv' := [(2, .int i_5), (0, .ref m0), (1, .int n), (3, .int q)]) hx hb dX5_back_194 hl (k := 2) rfl (by rw [e_i_5]; rfl) (by decide) rfl (fun ls hl => ?_)
            refine lv_goto (tgt := 22) hx hb dX5_back_197 (by decide) ?_
            exact ih_22 i_5 v_2 v_1 v_3 by9 g_4 py ey _ _ _ ⟨lv_sub hl [1, 2, 0] rfl, hP, hD, hS, by rw [e_i_5, i_p2 (n_lt c_24) hi0]; omega, ⟨hav.1, hav.2, hov.1, hov.2, by omega, by omega, hfy, hpy, hka, hki, hko, hkp⟩, by rw [e_i_5, i_p2 (n_lt c_24) hi0]; omega⟩ (by rw [e_i_5, i_p2 (n_lt c_24) hi0]; omega)
          · have hl3 : q.toInt < 9 := n_lt c_140
            refine lv_aload_n hx hb dX5_back_143 rfl (lv_at hl 0 rfl) ?_
            refine va_get (D := (dC, dI)) (ci := 6) (v := .ref m15) (C := RX5) (T := TX5) (N := 27) hx hb hts (by decide +kernel) hown hK hP 0 rfl rfl 22 (by decide) (hts (.fieldLink RX5 54 "CobolDebuggerModel" "keptItems" "[I") (by decide +kernel)) (fun _ h9 => h9) rfl dX5_back_144 ?_
            refine lv_aload_n hx hb dX5_back_147 rfl (lv_at hl 0 rfl) ?_
            refine va_get (D := (dC, dI)) (ci := 6) (v := .int v_1) (C := RX5) (T := TX5) (N := 27) hx hb hts (by decide +kernel) hown hK hP 0 rfl rfl 6 (by decide) (hts (.fieldLink RX5 113 "CobolDebuggerModel" "kept" "I") (by decide +kernel)) (fun _ h9 => h9) rfl dX5_back_148 ?_
            refine va_iald hx hb hK hP 7 6 rfl rfl (i := v_1) hkx dX5_back_151 ?_
            refine lv_if_lt (tgt := 194) hx hb dX5_back_152 (by decide) (fun c_152 => ?_) (fun c_152 => ?_)
            · obtain ⟨i_6, e_i_6⟩ : ∃ y : Int32, y = i + 1 := ⟨_, rfl⟩
              refine lv_iinc (v := i_6) (lv' := [(2, .int i_6), (0, .ref m0), (1, .int n), (3, .int q)]) hx hb dX5_back_194 hl (k := 2) rfl (by rw [e_i_6]; rfl) (by decide) rfl (fun ls hl => ?_)
              refine lv_goto (tgt := 22) hx hb dX5_back_197 (by decide) ?_
              exact ih_22 i_6 v_2 v_1 v_3 by9 g_4 py ey _ _ _ ⟨lv_sub hl [1, 2, 0] rfl, hP, hD, hS, by rw [e_i_6, i_p2 (n_lt c_24) hi0]; omega, ⟨hav.1, hav.2, hov.1, hov.2, by omega, by omega, hfy, hpy, hka, hki, hko, hkp⟩, by rw [e_i_6, i_p2 (n_lt c_24) hi0]; omega⟩ (by rw [e_i_6, i_p2 (n_lt c_24) hi0]; omega)
            · have him : vp_in (mki v_1.toNatClampNeg) 30 := ix_r (i_n0 c_152) (hki _)
              refine lv_aload_n hx hb dX5_back_155 rfl (lv_at hl 0 rfl) ?_
              refine va_get (D := (dC, dI)) (ci := 6) (v := .ref m7) (C := RX5) (T := TX5) (N := 27) hx hb hts (by decide +kernel) hown hK hP 0 rfl rfl 14 (by decide) (hts (.fieldLink RX5 29 "CobolDebuggerModel" "bytes" "[B") (by decide +kernel)) (fun _ h9 => h9) rfl dX5_back_156 ?_
              refine lv_bipush (v := 9) hx hb dX5_back_159 (by decide) ?_
              refine lv_aload_n hx hb dX5_back_161 rfl (lv_at hl 0 rfl) ?_
              refine va_get (D := (dC, dI)) (ci := 6) (v := .ref m15) (C := RX5) (T := TX5) (N := 27) hx hb hts (by decide +kernel) hown hK hP 0 rfl rfl 22 (by decide) (hts (.fieldLink RX5 54 "CobolDebuggerModel" "keptItems" "[I") (by decide +kernel)) (fun _ h9 => h9) rfl dX5_back_162 ?_
              refine lv_aload_n hx hb dX5_back_165 rfl (lv_at hl 0 rfl) ?_
              refine va_get (D := (dC, dI)) (ci := 6) (v := .int v_1) (C := RX5) (T := TX5) (N := 27) hx hb hts (by decide +kernel) hown hK hP 0 rfl rfl 6 (by decide) (hts (.fieldLink RX5 113 "CobolDebuggerModel" "kept" "I") (by decide +kernel)) (fun _ h9 => h9) rfl dX5_back_166 ?_
              refine va_iald hx hb hK hP 7 6 rfl rfl (i := v_1) hkx dX5_back_169 ?_
              refine lv_imul hx hb dX5_back_170 ?_
              refine lv_iload_n hx hb dX5_back_171 rfl (lv_at hl 3 rfl) ?_
              refine lv_iadd hx hb dX5_back_172 ?_
              refine lv_aload_n hx hb dX5_back_173 rfl (lv_at hl 0 rfl) ?_
              refine va_get (D := (dC, dI)) (ci := 6) (v := .ref m19) (C := RX5) (T := TX5) (N := 27) hx hb hts (by decide +kernel) hown hK hP 0 rfl rfl 26 (by decide) (hts (.fieldLink RX5 66 "CobolDebuggerModel" "keptBytes" "[B") (by decide +kernel)) (fun _ h9 => h9) rfl dX5_back_174 ?_
              refine lv_bipush (v := 9) hx hb dX5_back_177 (by decide) ?_
              refine lv_aload_n hx hb dX5_back_179 rfl (lv_at hl 0 rfl) ?_
              refine va_get (D := (dC, dI)) (ci := 6) (v := .int v_1) (C := RX5) (T := TX5) (N := 27) hx hb hts (by decide +kernel) hown hK hP 0 rfl rfl 6 (by decide) (hts (.fieldLink RX5 113 "CobolDebuggerModel" "kept" "I") (by decide +kernel)) (fun _ h9 => h9) rfl dX5_back_180 ?_
              refine lv_imul hx hb dX5_back_183 ?_
              refine lv_iload_n hx hb dX5_back_184 rfl (lv_at hl 3 rfl) ?_
              refine lv_iadd hx hb dX5_back_185 ?_
              refine va_bald hx hb hK hP 11 10 rfl rfl (i := (9 * v_1) + q) (ix_row (w := 9) (n := 300) (by decide) hkx hq0 hl3 rfl (by decide) (by decide) (by decide)) dX5_back_186 ?_
              refine va_bast hx hb hK hP hD hS 2 1 rfl rfl (i := (9 * (mki v_1.toNatClampNeg)) + q) (ix_9m him hq0 hl3) dX5_back_187 (fun H locs hP hD hS => ?_)
              have hP : va_P (dC, dI) vwCl [(m0, .inr (6, [.int 0, .int ms, .int mi, .int mt, .int v_2, .int mf, .int v_1, .int v_3, .ref m1, .ref m2, .ref m3, .ref m4, .ref m5, .ref m6, .ref m7, .ref m8, .ref m9, .ref m10, .ref m11, .ref m12, .ref m13, .ref m14, .ref m15, .ref m16, .ref m17, .ref m18, .ref m19])), (m1, .inl (km1, 102, .inl mpg)), (m7, .inl (km7, 270, .inl (upd by9 ((9 * (mki v_1.toNatClampNeg)) + q).toNatClampNeg (vp_nar .byte (mkb ((9 * v_1) + q).toNatClampNeg))))), (m11, .inl (km11, 20, .inl g_4)), (m12, .inl (km12, 20, .inl py)), (m13, .inl (km13, 20, .inl ey)), (m14, .inl (km14, 300, .inl mka)), (m15, .inl (km15, 300, .inl mki)), (m16, .inl (km16, 300, .inl mko)), (m17, .inl (km17, 6000, .inl mkp)), (m18, .inl (km18, 6000, .inl mke)), (m19, .inl (km19, 2700, .inl mkb))] H := hP
              have hD : va_D A [(m0, .inr (6, [.int 0, .int ms, .int mi, .int mt, .int v_2, .int mf, .int v_1, .int v_3, .ref m1, .ref m2, .ref m3, .ref m4, .ref m5, .ref m6, .ref m7, .ref m8, .ref m9, .ref m10, .ref m11, .ref m12, .ref m13, .ref m14, .ref m15, .ref m16, .ref m17, .ref m18, .ref m19])), (m1, .inl (km1, 102, .inl mpg)), (m7, .inl (km7, 270, .inl (upd by9 ((9 * (mki v_1.toNatClampNeg)) + q).toNatClampNeg (vp_nar .byte (mkb ((9 * v_1) + q).toNatClampNeg))))), (m11, .inl (km11, 20, .inl g_4)), (m12, .inl (km12, 20, .inl py)), (m13, .inl (km13, 20, .inl ey)), (m14, .inl (km14, 300, .inl mka)), (m15, .inl (km15, 300, .inl mki)), (m16, .inl (km16, 300, .inl mko)), (m17, .inl (km17, 6000, .inl mkp)), (m18, .inl (km18, 6000, .inl mke)), (m19, .inl (km19, 2700, .inl mkb))] := hD
              obtain ⟨g_7, e_g_7⟩ : ∃ y, y = upd by9 ((9 * (mki v_1.toNatClampNeg)) + q).toNatClampNeg (vp_nar .byte (mkb ((9 * v_1) + q).toNatClampNeg)) := ⟨_, rfl⟩
              rw [← e_g_7] at hP hD
              obtain ⟨i_8, e_i_8⟩ : ∃ y : Int32, y = q + 1 := ⟨_, rfl⟩
              refine lv_iinc (v := i_8) (lv' := [(3, .int i_8), (0, .ref m0), (1, .int n), (2, .int i)]) hx hb dX5_back_188 hl (k := 3) rfl (by rw [e_i_8]; rfl) (by decide) rfl (fun ls hl => ?_)
              refine lv_goto (tgt := 137) hx hb dX5_back_191 (by decide) ?_
              exact ih_137 i_8 g_7 _ _ _ ⟨lv_sub hl [1, 2, 3, 0] rfl, hP, hD, hS, by rw [e_i_8, i_p1 (by omega) (by omega)]; omega, by rw [e_g_7]; exact fitB_upd hfy _ _⟩ (by rw [e_i_8, i_p1 (by omega) (by omega)]; omega)
        · have hl2 : j.toInt < 20 := n_lt c_86
          have hj2 : vp_in j 20 := ix_r hj0 hl2
          refine lv_aload_n hx hb dX5_back_89 rfl (lv_at hl 0 rfl) ?_
          refine va_get (D := (dC, dI)) (ci := 6) (v := .ref m12) (C := RX5) (T := TX5) (N := 27) hx hb hts (by decide +kernel) hown hK hP 0 rfl rfl 19 (by decide) (hts (.fieldLink RX5 45 "CobolDebuggerModel" "performed" "[I") (by decide +kernel)) (fun _ h9 => h9) rfl dX5_back_90 ?_
          refine lv_iload_n hx hb dX5_back_93 rfl (lv_at hl 3 rfl) ?_
          refine lv_aload_n hx hb dX5_back_94 rfl (lv_at hl 0 rfl) ?_
          refine va_get (D := (dC, dI)) (ci := 6) (v := .ref m17) (C := RX5) (T := TX5) (N := 27) hx hb hts (by decide +kernel) hown hK hP 0 rfl rfl 24 (by decide) (hts (.fieldLink RX5 60 "CobolDebuggerModel" "keptPerformed" "[I") (by decide +kernel)) (fun _ h9 => h9) rfl dX5_back_95 ?_
          refine lv_bipush (v := 20) hx hb dX5_back_98 (by decide) ?_
          refine lv_aload_n hx hb dX5_back_100 rfl (lv_at hl 0 rfl) ?_
          refine va_get (D := (dC, dI)) (ci := 6) (v := .int v_1) (C := RX5) (T := TX5) (N := 27) hx hb hts (by decide +kernel) hown hK hP 0 rfl rfl 6 (by decide) (hts (.fieldLink RX5 113 "CobolDebuggerModel" "kept" "I") (by decide +kernel)) (fun _ h9 => h9) rfl dX5_back_101 ?_
          refine lv_imul hx hb dX5_back_104 ?_
          refine lv_iload_n hx hb dX5_back_105 rfl (lv_at hl 3 rfl) ?_
          refine lv_iadd hx hb dX5_back_106 ?_
          refine va_iald hx hb hK hP 9 8 rfl rfl (i := (20 * v_1) + j) (ix_row (w := 20) (n := 300) (by decide) hkx hj0 hl2 rfl (by decide) (by decide) (by decide)) dX5_back_107 ?_
          refine va_iast hx hb hK hP hD hS 4 3 rfl rfl (i := j) hj2 dX5_back_108 (fun H locs hP hD hS => ?_)
          have hP : va_P (dC, dI) vwCl [(m0, .inr (6, [.int 0, .int ms, .int mi, .int mt, .int v_2, .int mf, .int v_1, .int v_3, .ref m1, .ref m2, .ref m3, .ref m4, .ref m5, .ref m6, .ref m7, .ref m8, .ref m9, .ref m10, .ref m11, .ref m12, .ref m13, .ref m14, .ref m15, .ref m16, .ref m17, .ref m18, .ref m19])), (m1, .inl (km1, 102, .inl mpg)), (m7, .inl (km7, 270, .inl mbsx)), (m11, .inl (km11, 20, .inl g_4)), (m12, .inl (km12, 20, .inl (upd py j.toNatClampNeg (mkp ((20 * v_1) + j).toNatClampNeg)))), (m13, .inl (km13, 20, .inl ey)), (m14, .inl (km14, 300, .inl mka)), (m15, .inl (km15, 300, .inl mki)), (m16, .inl (km16, 300, .inl mko)), (m17, .inl (km17, 6000, .inl mkp)), (m18, .inl (km18, 6000, .inl mke)), (m19, .inl (km19, 2700, .inl mkb))] H := hP
          have hD : va_D A [(m0, .inr (6, [.int 0, .int ms, .int mi, .int mt, .int v_2, .int mf, .int v_1, .int v_3, .ref m1, .ref m2, .ref m3, .ref m4, .ref m5, .ref m6, .ref m7, .ref m8, .ref m9, .ref m10, .ref m11, .ref m12, .ref m13, .ref m14, .ref m15, .ref m16, .ref m17, .ref m18, .ref m19])), (m1, .inl (km1, 102, .inl mpg)), (m7, .inl (km7, 270, .inl mbsx)), (m11, .inl (km11, 20, .inl g_4)), (m12, .inl (km12, 20, .inl (upd py j.toNatClampNeg (mkp ((20 * v_1) + j).toNatClampNeg)))), (m13, .inl (km13, 20, .inl ey)), (m14, .inl (km14, 300, .inl mka)), (m15, .inl (km15, 300, .inl mki)), (m16, .inl (km16, 300, .inl mko)), (m17, .inl (km17, 6000, .inl mkp)), (m18, .inl (km18, 6000, .inl mke)), (m19, .inl (km19, 2700, .inl mkb))] := hD
          obtain ⟨g_9, e_g_9⟩ : ∃ y, y = upd py j.toNatClampNeg (mkp ((20 * v_1) + j).toNatClampNeg) := ⟨_, rfl⟩
          rw [← e_g_9] at hP hD
          refine lv_aload_n hx hb dX5_back_109 rfl (lv_at hl 0 rfl) ?_
          refine va_get (D := (dC, dI)) (ci := 6) (v := .ref m13) (C := RX5) (T := TX5) (N := 27) hx hb hts (by decide +kernel) hown hK hP 0 rfl rfl 20 (by decide) (hts (.fieldLink RX5 48 "CobolDebuggerModel" "ends" "[I") (by decide +kernel)) (fun _ h9 => h9) rfl dX5_back_110 ?_
          refine lv_iload_n hx hb dX5_back_113 rfl (lv_at hl 3 rfl) ?_
          refine lv_aload_n hx hb dX5_back_114 rfl (lv_at hl 0 rfl) ?_
          refine va_get (D := (dC, dI)) (ci := 6) (v := .ref m18) (C := RX5) (T := TX5) (N := 27) hx hb hts (by decide +kernel) hown hK hP 0 rfl rfl 25 (by decide) (hts (.fieldLink RX5 63 "CobolDebuggerModel" "keptEnds" "[I") (by decide +kernel)) (fun _ h9 => h9) rfl dX5_back_115 ?_
          refine lv_bipush (v := 20) hx hb dX5_back_118 (by decide) ?_
          refine lv_aload_n hx hb dX5_back_120 rfl (lv_at hl 0 rfl) ?_
          refine va_get (D := (dC, dI)) (ci := 6) (v := .int v_1) (C := RX5) (T := TX5) (N := 27) hx hb hts (by decide +kernel) hown hK hP 0 rfl rfl 6 (by decide) (hts (.fieldLink RX5 113 "CobolDebuggerModel" "kept" "I") (by decide +kernel)) (fun _ h9 => h9) rfl dX5_back_121 ?_
          refine lv_imul hx hb dX5_back_124 ?_
          refine lv_iload_n hx hb dX5_back_125 rfl (lv_at hl 3 rfl) ?_
          refine lv_iadd hx hb dX5_back_126 ?_
          refine va_iald hx hb hK hP 10 9 rfl rfl (i := (20 * v_1) + j) (ix_row (w := 20) (n := 300) (by decide) hkx hj0 hl2 rfl (by decide) (by decide) (by decide)) dX5_back_127 ?_
          refine va_iast hx hb hK hP hD hS 5 4 rfl rfl (i := j) hj2 dX5_back_128 (fun H locs hP hD hS => ?_)
          have hP : va_P (dC, dI) vwCl [(m0, .inr (6, [.int 0, .int ms, .int mi, .int mt, .int v_2, .int mf, .int v_1, .int v_3, .ref m1, .ref m2, .ref m3, .ref m4, .ref m5, .ref m6, .ref m7, .ref m8, .ref m9, .ref m10, .ref m11, .ref m12, .ref m13, .ref m14, .ref m15, .ref m16, .ref m17, .ref m18, .ref m19])), (m1, .inl (km1, 102, .inl mpg)), (m7, .inl (km7, 270, .inl mbsx)), (m11, .inl (km11, 20, .inl g_4)), (m12, .inl (km12, 20, .inl g_9)), (m13, .inl (km13, 20, .inl (upd ey j.toNatClampNeg (mke ((20 * v_1) + j).toNatClampNeg)))), (m14, .inl (km14, 300, .inl mka)), (m15, .inl (km15, 300, .inl mki)), (m16, .inl (km16, 300, .inl mko)), (m17, .inl (km17, 6000, .inl mkp)), (m18, .inl (km18, 6000, .inl mke)), (m19, .inl (km19, 2700, .inl mkb))] H := hP
          have hD : va_D A [(m0, .inr (6, [.int 0, .int ms, .int mi, .int mt, .int v_2, .int mf, .int v_1, .int v_3, .ref m1, .ref m2, .ref m3, .ref m4, .ref m5, .ref m6, .ref m7, .ref m8, .ref m9, .ref m10, .ref m11, .ref m12, .ref m13, .ref m14, .ref m15, .ref m16, .ref m17, .ref m18, .ref m19])), (m1, .inl (km1, 102, .inl mpg)), (m7, .inl (km7, 270, .inl mbsx)), (m11, .inl (km11, 20, .inl g_4)), (m12, .inl (km12, 20, .inl g_9)), (m13, .inl (km13, 20, .inl (upd ey j.toNatClampNeg (mke ((20 * v_1) + j).toNatClampNeg)))), (m14, .inl (km14, 300, .inl mka)), (m15, .inl (km15, 300, .inl mki)), (m16, .inl (km16, 300, .inl mko)), (m17, .inl (km17, 6000, .inl mkp)), (m18, .inl (km18, 6000, .inl mke)), (m19, .inl (km19, 2700, .inl mkb))] := hD
          obtain ⟨g_10, e_g_10⟩ : ∃ y, y = upd ey j.toNatClampNeg (mke ((20 * v_1) + j).toNatClampNeg) := ⟨_, rfl⟩
          rw [← e_g_10] at hP hD
          obtain ⟨i_11, e_i_11⟩ : ∃ y : Int32, y = j + 1 := ⟨_, rfl⟩
          refine lv_iinc (v := i_11) (lv' := [(3, .int i_11), (0, .ref m0), (1, .int n), (2, .int i)]) hx hb dX5_back_129 hl (k := 3) rfl (by rw [e_i_11]; rfl) (by decide) rfl (fun ls hl => ?_)
          refine lv_goto (tgt := 83) hx hb dX5_back_132 (by decide) ?_
          exact ih_83 i_11 g_9 g_10 _ _ _ ⟨lv_sub hl [1, 2, 3, 0] rfl, hP, hD, hS, by rw [e_i_11, i_p1 (by omega) (by omega)]; omega, by rw [e_g_9]; exact up_all (P := fun x => 0 ≤ x.toInt ∧ x.toInt ≤ ms.toInt) hpy (hkp _)⟩ (by rw [e_i_11, i_p1 (by omega) (by omega)]; omega)
    · refine lv_bipush (v := (-4)) hx hb dX5_back_17 (by decide) ?_
      exact W.iret (v := (-4)) hx hb hr (fun t ht hW => ⟨⟨(-4), (0, ma, mk, mp, mbs, mct, mpf, men), rfl, hr9, by rw [ht]; exact hP, hD⟩, hS.F ht⟩) hS.2.2 dX5_back_19
