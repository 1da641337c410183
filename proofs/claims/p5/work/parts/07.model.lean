set_option maxHeartbeats 4000000 in
set_option maxRecDepth 100000 in
theorem c_X5_isStatement (l : Launch) (dC : Nat → ClassId) (dI : Nat → Nat → Nat) (m0 m1 m2 m3 m4 m5 m6 m7 m8 m9 m10 m11 m12 m13 m14 m15 m16 m17 m18 m19 : Nat) (ce ms mi mt ma mf mk mp : Int32) (st : Int32)  : Met l yX5_isStatement wsX5_isStatement ({ frames := 0, cells := 0, slots := 0, locals := 0 }) (va_Pc [.ref m0, .int st] (fun U => va_P (dC, dI) vwCl [(m0, .inr (6, [.int ce, .int ms, .int mi, .int mt, .int ma, .int mf, .int mk, .int mp, .ref m1, .ref m2, .ref m3, .ref m4, .ref m5, .ref m6, .ref m7, .ref m8, .ref m9, .ref m10, .ref m11, .ref m12, .ref m13, .ref m14, .ref m15, .ref m16, .ref m17, .ref m18, .ref m19]))] U.heap ∧ va_K (dC, dI) vwCl [] U)) (va_Qi (fun (r : Int32) (_ : Unit) => r = if st ≤ 0 ∨ ms < st then 0 else 1) (fun _ _ => True) (fun _ => False)) 0 0 (fun _ => False) := by
  refine Met.ofW (cc := cX5_isStatement) (maxL := 2) (ret := (some .boolean)) (by decide) rfl ?_
  intro p e s m args below meth c s₁ B hml hv
  obtain ⟨rfl, hP, hK⟩ := hv
  have hx := B.exec
  have hb := B.bytes
  have hr := B.returns
  have hts := atoms_spec (ws := wsX5_isStatement) B.pre
  have hown : s.vm.findClass RX5 = some m.cls := findClass_of_methodNamed B.named
  have hlocks := B.notSynchronized
  have hS : va_S (fun _ => False) s.heap s.heap [] := va_S.rf
  have hl := lv_entry ([.ref m0, .int st]) (n := 2) (Nat.le_of_ble_eq_true rfl)
  rw [lg_entry_eq]
  generalize (lg_sl ([.ref m0, .int st]) ++ List.replicate (2 - (lg_sl ([.ref m0, .int st])).length) Slot.unset).toArray = ls at hl ⊢
  have hl : lv_has ls 2 [(0, .ref m0), (1, .int st)] := hl
  refine lv_iload_n hx hb dX5_isStatement_0 rfl (lv_at hl 1 rfl) ?_
  refine lv_if_le (tgt := 16) hx hb dX5_isStatement_1 (by decide) (fun c_1 => ?_) (fun c_1 => ?_)
  · refine lv_iconst (v := 0) hx hb dX5_isStatement_16 (by decide) ?_
    exact W.zret (v := 0) hx hb hr (by decide) (fun t ht hW => ⟨⟨0, (), rfl, by simp [c_1], trivial⟩, hS.F ht⟩) hS.2.2 dX5_isStatement_17
  · refine lv_iload_n hx hb dX5_isStatement_4 rfl (lv_at hl 1 rfl) ?_
    refine lv_aload_n hx hb dX5_isStatement_5 rfl (lv_at hl 0 rfl) ?_
    refine va_get (D := (dC, dI)) (ci := 6) (v := .int ms) (C := RX5) (T := TX5) (N := 27) hx hb hts (by decide +kernel) hown hK hP 0 rfl rfl 1 (by decide) (hts (.fieldLink RX5 73 "CobolDebuggerModel" "statements" "I") (by decide +kernel)) (fun _ h9 => h9) rfl dX5_isStatement_6 ?_
    refine lv_icmp_gt (tgt := 16) hx hb dX5_isStatement_9 (by decide) (fun c_9 => ?_) (fun c_9 => ?_)
    · refine lv_iconst (v := 0) hx hb dX5_isStatement_16 (by decide) ?_
      exact W.zret (v := 0) hx hb hr (by decide) (fun t ht hW => ⟨⟨0, (), rfl, by simp [c_1, c_9], trivial⟩, hS.F ht⟩) hS.2.2 dX5_isStatement_17
    · refine lv_iconst (v := 1) hx hb dX5_isStatement_12 (by decide) ?_
      refine lv_goto (tgt := 17) hx hb dX5_isStatement_13 (by decide) ?_
      exact W.zret (v := 1) hx hb hr (by decide) (fun t ht hW => ⟨⟨1, (), rfl, by simp [c_1, c_9], trivial⟩, hS.F ht⟩) hS.2.2 dX5_isStatement_17

set_option maxHeartbeats 4000000 in
set_option maxRecDepth 100000 in
theorem c_X5_isItem (l : Launch) (dC : Nat → ClassId) (dI : Nat → Nat → Nat) (m0 m1 m2 m3 m4 m5 m6 m7 m8 m9 m10 m11 m12 m13 m14 m15 m16 m17 m18 m19 : Nat) (ce ms mi mt ma mf mk mp : Int32) (im : Int32)  : Met l yX5_isItem wsX5_isItem ({ frames := 0, cells := 0, slots := 0, locals := 0 }) (va_Pc [.ref m0, .int im] (fun U => va_P (dC, dI) vwCl [(m0, .inr (6, [.int ce, .int ms, .int mi, .int mt, .int ma, .int mf, .int mk, .int mp, .ref m1, .ref m2, .ref m3, .ref m4, .ref m5, .ref m6, .ref m7, .ref m8, .ref m9, .ref m10, .ref m11, .ref m12, .ref m13, .ref m14, .ref m15, .ref m16, .ref m17, .ref m18, .ref m19]))] U.heap ∧ va_K (dC, dI) vwCl [] U)) (va_Qi (fun (r : Int32) (_ : Unit) => r = if im < 0 ∨ mi ≤ im then 0 else 1) (fun _ _ => True) (fun _ => False)) 0 0 (fun _ => False) := by
  refine Met.ofW (cc := cX5_isItem) (maxL := 2) (ret := (some .boolean)) (by decide) rfl ?_
  intro p e s m args below meth c s₁ B hml hv
  obtain ⟨rfl, hP, hK⟩ := hv
  have hx := B.exec
  have hb := B.bytes
  have hr := B.returns
  have hts := atoms_spec (ws := wsX5_isItem) B.pre
  have hown : s.vm.findClass RX5 = some m.cls := findClass_of_methodNamed B.named
  have hlocks := B.notSynchronized
  have hS : va_S (fun _ => False) s.heap s.heap [] := va_S.rf
  have hl := lv_entry ([.ref m0, .int im]) (n := 2) (Nat.le_of_ble_eq_true rfl)
  rw [lg_entry_eq]
  generalize (lg_sl ([.ref m0, .int im]) ++ List.replicate (2 - (lg_sl ([.ref m0, .int im])).length) Slot.unset).toArray = ls at hl ⊢
  have hl : lv_has ls 2 [(0, .ref m0), (1, .int im)] := hl
  refine lv_iload_n hx hb dX5_isItem_0 rfl (lv_at hl 1 rfl) ?_
  refine lv_if_lt (tgt := 16) hx hb dX5_isItem_1 (by decide) (fun c_1 => ?_) (fun c_1 => ?_)
  · refine lv_iconst (v := 0) hx hb dX5_isItem_16 (by decide) ?_
    exact W.zret (v := 0) hx hb hr (by decide) (fun t ht hW => ⟨⟨0, (), rfl, by simp [c_1], trivial⟩, hS.F ht⟩) hS.2.2 dX5_isItem_17
  · refine lv_iload_n hx hb dX5_isItem_4 rfl (lv_at hl 1 rfl) ?_
    refine lv_aload_n hx hb dX5_isItem_5 rfl (lv_at hl 0 rfl) ?_
    refine va_get (D := (dC, dI)) (ci := 6) (v := .int mi) (C := RX5) (T := TX5) (N := 27) hx hb hts (by decide +kernel) hown hK hP 0 rfl rfl 2 (by decide) (hts (.fieldLink RX5 76 "CobolDebuggerModel" "items" "I") (by decide +kernel)) (fun _ h9 => h9) rfl dX5_isItem_6 ?_
    refine lv_icmp_ge (tgt := 16) hx hb dX5_isItem_9 (by decide) (fun c_9 => ?_) (fun c_9 => ?_)
    · refine lv_iconst (v := 0) hx hb dX5_isItem_16 (by decide) ?_
      exact W.zret (v := 0) hx hb hr (by decide) (fun t ht hW => ⟨⟨0, (), rfl, by simp [c_1, c_9], trivial⟩, hS.F ht⟩) hS.2.2 dX5_isItem_17
    · refine lv_iconst (v := 1) hx hb dX5_isItem_12 (by decide) ?_
      refine lv_goto (tgt := 17) hx hb dX5_isItem_13 (by decide) ?_
      exact W.zret (v := 1) hx hb hr (by decide) (fun t ht hW => ⟨⟨1, (), rfl, by simp [c_1, c_9], trivial⟩, hS.F ht⟩) hS.2.2 dX5_isItem_17
