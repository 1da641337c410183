set_option maxHeartbeats 4000000 in
set_option maxRecDepth 100000 in
theorem c_X5_keep (l : Launch) (dC : Nat → ClassId) (dI : Nat → Nat → Nat) (sz : Nat) (m0 m1 m2 m3 m4 m5 m6 m7 m8 m9 m10 m11 m12 m13 m14 m15 m16 m17 m18 m19 : Nat) (km3 km7 km12 km13 km14 km15 km16 km17 km18 km19 : ClassId) (mds mbs mpf men mka mki mko mkp mke mkb : Nat → Int32) (ce ms mi mt ma mf mk mp : Int32) (hs1 : ms.toInt ≤ 100) (hk0 : 0 ≤ mk.toInt) (hk1 : mk.toInt ≤ 300) (hma : 0 ≤ ma.toInt ∧ ma.toInt ≤ ms.toInt) (hp0 : 0 ≤ mp.toInt) (hp1 : mp.toInt ≤ 20) (hdi : (mds ma.toNatClampNeg).toInt < 30) (hpf : ∀ j, 0 ≤ (mpf j).toInt ∧ (mpf j).toInt ≤ ms.toInt) (hka : ∀ j, 0 ≤ (mka j).toInt ∧ (mka j).toInt ≤ ms.toInt) (hki : ∀ j, (mki j).toInt < 30) (hko : ∀ j, 0 ≤ (mko j).toInt ∧ (mko j).toInt ≤ 20) (hkp : ∀ j, 0 ≤ (mkp j).toInt ∧ (mkp j).toInt ≤ ms.toInt) : Met l yX5_keep wsX5_keep ({ frames := 0, cells := 0, slots := 0, locals := 0 }) (va_Pc [.ref m0] (fun U => U.heap.size = sz ∧ va_P (dC, dI) vwCl [(m0, .inr (6, [.int ce, .int ms, .int mi, .int mt, .int ma, .int mf, .int mk, .int mp, .ref m1, .ref m2, .ref m3, .ref m4, .ref m5, .ref m6, .ref m7, .ref m8, .ref m9, .ref m10, .ref m11, .ref m12, .ref m13, .ref m14, .ref m15, .ref m16, .ref m17, .ref m18, .ref m19])), (m3, .inl (km3, 102, .inl mds)), (m7, .inl (km7, 270, .inl mbs)), (m12, .inl (km12, 20, .inl mpf)), (m13, .inl (km13, 20, .inl men)), (m14, .inl (km14, 300, .inl mka)), (m15, .inl (km15, 300, .inl mki)), (m16, .inl (km16, 300, .inl mko)), (m17, .inl (km17, 6000, .inl mkp)), (m18, .inl (km18, 6000, .inl mke)), (m19, .inl (km19, 2700, .inl mkb))] U.heap ∧ va_K (dC, dI) vwCl [(km3, .int), (km7, .byte), (km12, .int), (km13, .int), (km14, .int), (km15, .int), (km16, .int), (km17, .int), (km18, .int), (km19, .byte)] U ∧ va_D (fun _ => True) [(m0, .inr (6, [.int ce, .int ms, .int mi, .int mt, .int ma, .int mf, .int mk, .int mp, .ref m1, .ref m2, .ref m3, .ref m4, .ref m5, .ref m6, .ref m7, .ref m8, .ref m9, .ref m10, .ref m11, .ref m12, .ref m13, .ref m14, .ref m15, .ref m16, .ref m17, .ref m18, .ref m19])), (m3, .inl (km3, 102, .inl mds)), (m7, .inl (km7, 270, .inl mbs)), (m12, .inl (km12, 20, .inl mpf)), (m13, .inl (km13, 20, .inl men)), (m14, .inl (km14, 300, .inl mka)), (m15, .inl (km15, 300, .inl mki)), (m16, .inl (km16, 300, .inl mko)), (m17, .inl (km17, 6000, .inl mkp)), (m18, .inl (km18, 6000, .inl mke)), (m19, .inl (km19, 2700, .inl mkb))])) (va_Qv (fun (u : Int32 × (Nat → Int32) × (Nat → Int32) × (Nat → Int32) × (Nat → Int32) × (Nat → Int32) × (Nat → Int32)) => 1 ≤ (u.1).toInt ∧ (u.1).toInt ≤ 300 ∧ (∀ j, 0 ≤ ((u.2.1) j).toInt ∧ ((u.2.1) j).toInt ≤ ms.toInt) ∧ (∀ j, ((u.2.2.1) j).toInt < 30) ∧ (∀ j, 0 ≤ ((u.2.2.2.1) j).toInt ∧ ((u.2.2.2.1) j).toInt ≤ 20) ∧ (∀ j, 0 ≤ ((u.2.2.2.2.1) j).toInt ∧ ((u.2.2.2.2.1) j).toInt ≤ ms.toInt)) (fun (u : Int32 × (Nat → Int32) × (Nat → Int32) × (Nat → Int32) × (Nat → Int32) × (Nat → Int32) × (Nat → Int32)) (t : State) => va_P (dC, dI) vwCl [(m0, .inr (6, [.int ce, .int ms, .int mi, .int mt, .int ma, .int mf, .int u.1, .int mp, .ref m1, .ref m2, .ref m3, .ref m4, .ref m5, .ref m6, .ref m7, .ref m8, .ref m9, .ref m10, .ref m11, .ref m12, .ref m13, .ref m14, .ref m15, .ref m16, .ref m17, .ref m18, .ref m19])), (m3, .inl (km3, 102, .inl mds)), (m7, .inl (km7, 270, .inl mbs)), (m12, .inl (km12, 20, .inl mpf)), (m13, .inl (km13, 20, .inl men)), (m14, .inl (km14, 300, .inl u.2.1)), (m15, .inl (km15, 300, .inl u.2.2.1)), (m16, .inl (km16, 300, .inl u.2.2.2.1)), (m17, .inl (km17, 6000, .inl u.2.2.2.2.1)), (m18, .inl (km18, 6000, .inl u.2.2.2.2.2.1)), (m19, .inl (km19, 2700, .inl u.2.2.2.2.2.2))] t.heap ∧ va_D (va_A [(m0, .inr (6, [.int ce, .int ms, .int mi, .int mt, .int ma, .int mf, .int mk, .int mp, .ref m1, .ref m2, .ref m3, .ref m4, .ref m5, .ref m6, .ref m7, .ref m8, .ref m9, .ref m10, .ref m11, .ref m12, .ref m13, .ref m14, .ref m15, .ref m16, .ref m17, .ref m18, .ref m19])), (m3, .inl (km3, 102, .inl mds)), (m7, .inl (km7, 270, .inl mbs)), (m12, .inl (km12, 20, .inl mpf)), (m13, .inl (km13, 20, .inl men)), (m14, .inl (km14, 300, .inl mka)), (m15, .inl (km15, 300, .inl mki)), (m16, .inl (km16, 300, .inl mko)), (m17, .inl (km17, 6000, .inl mkp)), (m18, .inl (km18, 6000, .inl mke)), (m19, .inl (km19, 2700, .inl mkb))] sz) [(m0, .inr (6, [.int ce, .int ms, .int mi, .int mt, .int ma, .int mf, .int u.1, .int mp, .ref m1, .ref m2, .ref m3, .ref m4, .ref m5, .ref m6, .ref m7, .ref m8, .ref m9, .ref m10, .ref m11, .ref m12, .ref m13, .ref m14, .ref m15, .ref m16, .ref m17, .ref m18, .ref m19])), (m3, .inl (km3, 102, .inl mds)), (m7, .inl (km7, 270, .inl mbs)), (m12, .inl (km12, 20, .inl mpf)), (m13, .inl (km13, 20, .inl men)), (m14, .inl (km14, 300, .inl u.2.1)), (m15, .inl (km15, 300, .inl u.2.2.1)), (m16, .inl (km16, 300, .inl u.2.2.2.1)), (m17, .inl (km17, 6000, .inl u.2.2.2.2.1)), (m18, .inl (km18, 6000, .inl u.2.2.2.2.2.1)), (m19, .inl (km19, 2700, .inl u.2.2.2.2.2.2))]) (va_A [(m0, .inr (6, [.int ce, .int ms, .int mi, .int mt, .int ma, .int mf, .int mk, .int mp, .ref m1, .ref m2, .ref m3, .ref m4, .ref m5, .ref m6, .ref m7, .ref m8, .ref m9, .ref m10, .ref m11, .ref m12, .ref m13, .ref m14, .ref m15, .ref m16, .ref m17, .ref m18, .ref m19])), (m3, .inl (km3, 102, .inl mds)), (m7, .inl (km7, 270, .inl mbs)), (m12, .inl (km12, 20, .inl mpf)), (m13, .inl (km13, 20, .inl men)), (m14, .inl (km14, 300, .inl mka)), (m15, .inl (km15, 300, .inl mki)), (m16, .inl (km16, 300, .inl mko)), (m17, .inl (km17, 6000, .inl mkp)), (m18, .inl (km18, 6000, .inl mke)), (m19, .inl (km19, 2700, .inl mkb))] sz)) 0 0 (va_A [(m0, .inr (6, [.int ce, .int ms, .int mi, .int mt, .int ma, .int mf, .int mk, .int mp, .ref m1, .ref m2, .ref m3, .ref m4, .ref m5, .ref m6, .ref m7, .ref m8, .ref m9, .ref m10, .ref m11, .ref m12, .ref m13, .ref m14, .ref m15, .ref m16, .ref m17, .ref m18, .ref m19])), (m3, .inl (km3, 102, .inl mds)), (m7, .inl (km7, 270, .inl mbs)), (m12, .inl (km12, 20, .inl mpf)), (m13, .inl (km13, 20, .inl men)), (m14, .inl (km14, 300, .inl mka)), (m15, .inl (km15, 300, .inl mki)), (m16, .inl (km16, 300, .inl mko)), (m17, .inl (km17, 6000, .inl mkp)), (m18, .inl (km18, 6000, .inl mke)), (m19, .inl (km19, 2700, .inl mkb))] sz) := by
  refine Met.ofW (cc := cX5_keep) (maxL := 2) (ret := none) (by decide) rfl ?_
  intro p e s m args below meth c s₁ B hml hv
  obtain ⟨rfl, hsz, hP, hK, hD0⟩ := hv
  have hx := B.exec
  have hb := B.bytes
  have hr := B.returns
  have hts := atoms_spec (ws := wsX5_keep) B.pre
  have hown : s.vm.findClass RX5 = some m.cls := findClass_of_methodNamed B.named
  have hlocks := B.notSynchronized
  subst hsz
  have hD := hD0.self (sz := s.heap.size)
  generalize hAe : va_A [(m0, .inr (6, [.int ce, .int ms, .int mi, .int mt, .int ma, .int mf, .int mk, .int mp, .ref m1, .ref m2, .ref m3, .ref m4, .ref m5, .ref m6, .ref m7, .ref m8, .ref m9, .ref m10, .ref m11, .ref m12, .ref m13, .ref m14, .ref m15, .ref m16, .ref m17, .ref m18, .ref m19])), (m3, .inl (km3, 102, .inl mds)), (m7, .inl (km7, 270, .inl mbs)), (m12, .inl (km12, 20, .inl mpf)), (m13, .inl (km13, 20, .inl men)), (m14, .inl (km14, 300, .inl mka)), (m15, .inl (km15, 300, .inl mki)), (m16, .inl (km16, 300, .inl mko)), (m17, .inl (km17, 6000, .inl mkp)), (m18, .inl (km18, 6000, .inl mke)), (m19, .inl (km19, 2700, .inl mkb))] s.heap.size = A at hD ⊢
  have hA : ∀ q : Nat, s.heap.size ≤ q → A q := fun q h => by rw [← hAe]; exact Or.inr h
  have hS : va_S A s.heap s.heap [] := va_S.rf
  have hl := lv_entry ([.ref m0]) (n := 2) (Nat.le_of_ble_eq_true rfl)
  rw [lg_entry_eq]
  generalize (lg_sl ([.ref m0]) ++ List.replicate (2 - (lg_sl ([.ref m0])).length) Slot.unset).toArray = ls at hl ⊢
  have hl : lv_has ls 2 [(0, .ref m0)] := hl
  have hmx : vp_in ma 102 := ix_r hma.1 (by omega)
  refine lv_aload_n hx hb dX5_keep_0 rfl (lv_at hl 0 rfl) ?_
  refine va_get (D := (dC, dI)) (ci := 6) (v := .int mk) (C := RX5) (T := TX5) (N := 27) hx hb hts (by decide +kernel) hown hK hP 0 rfl rfl 6 (by decide) (hts (.fieldLink RX5 113 "CobolDebuggerModel" "kept" "I") (by decide +kernel)) (fun _ h9 => h9) rfl dX5_keep_1 ?_
  refine lv_sipush (v := 300) hx hb dX5_keep_4 (by decide) ?_
  refine lv_icmp_ne (tgt := 161) hx hb dX5_keep_7 (by decide) (fun c_7 => ?_) (fun c_7 => ?_)
  · have hmk : 0 ≤ mk.toInt ∧ mk.toInt < 300 := by have h9 := i_ne c_7; have e3 : (300 : Int32).toInt = 300 := (by decide); omega
    have hkx : vp_in mk 300 := ix_r hmk.1 hmk.2
    have hA9 : ∀ j, 0 ≤ (mka j).toInt ∧ (mka j).toInt ≤ ms.toInt := hka
    have hI9 : ∀ j, (mki j).toInt < 30 := hki
    have hO9 : ∀ j, 0 ≤ (mko j).toInt ∧ (mko j).toInt ≤ 20 := hko
    refine lv_aload_n hx hb dX5_keep_161 rfl (lv_at hl 0 rfl) ?_
    refine va_get (D := (dC, dI)) (ci := 6) (v := .ref m14) (C := RX5) (T := TX5) (N := 27) hx hb hts (by decide +kernel) hown hK hP 0 rfl rfl 21 (by decide) (hts (.fieldLink RX5 51 "CobolDebuggerModel" "keptAt" "[I") (by decide +kernel)) (fun _ h9 => h9) rfl dX5_keep_162 ?_
    refine lv_aload_n hx hb dX5_keep_165 rfl (lv_at hl 0 rfl) ?_
    refine va_get (D := (dC, dI)) (ci := 6) (v := .int mk) (C := RX5) (T := TX5) (N := 27) hx hb hts (by decide +kernel) hown hK hP 0 rfl rfl 6 (by decide) (hts (.fieldLink RX5 113 "CobolDebuggerModel" "kept" "I") (by decide +kernel)) (fun _ h9 => h9) rfl dX5_keep_166 ?_
    refine lv_aload_n hx hb dX5_keep_169 rfl (lv_at hl 0 rfl) ?_
    refine va_get (D := (dC, dI)) (ci := 6) (v := .int ma) (C := RX5) (T := TX5) (N := 27) hx hb hts (by decide +kernel) hown hK hP 0 rfl rfl 4 (by decide) (hts (.fieldLink RX5 79 "CobolDebuggerModel" "at" "I") (by decide +kernel)) (fun _ h9 => h9) rfl dX5_keep_170 ?_
    refine va_iast hx hb hK hP hD hS 5 4 rfl rfl (i := mk) hkx dX5_keep_173 (fun H locs hP hD hS => ?_)
    have hP : va_P (dC, dI) vwCl [(m0, .inr (6, [.int ce, .int ms, .int mi, .int mt, .int ma, .int mf, .int mk, .int mp, .ref m1, .ref m2, .ref m3, .ref m4, .ref m5, .ref m6, .ref m7, .ref m8, .ref m9, .ref m10, .ref m11, .ref m12, .ref m13, .ref m14, .ref m15, .ref m16, .ref m17, .ref m18, .ref m19])), (m3, .inl (km3, 102, .inl mds)), (m7, .inl (km7, 270, .inl mbs)), (m12, .inl (km12, 20, .inl mpf)), (m13, .inl (km13, 20, .inl men)), (m14, .inl (km14, 300, .inl (upd mka mk.toNatClampNeg ma))), (m15, .inl (km15, 300, .inl mki)), (m16, .inl (km16, 300, .inl mko)), (m17, .inl (km17, 6000, .inl mkp)), (m18, .inl (km18, 6000, .inl mke)), (m19, .inl (km19, 2700, .inl mkb))] H := hP
    have hD : va_D A [(m0, .inr (6, [.int ce, .int ms, .int mi, .int mt, .int ma, .int mf, .int mk, .int mp, .ref m1, .ref m2, .ref m3, .ref m4, .ref m5, .ref m6, .ref m7, .ref m8, .ref m9, .ref m10, .ref m11, .ref m12, .ref m13, .ref m14, .ref m15, .ref m16, .ref m17, .ref m18, .ref m19])), (m3, .inl (km3, 102, .inl mds)), (m7, .inl (km7, 270, .inl mbs)), (m12, .inl (km12, 20, .inl mpf)), (m13, .inl (km13, 20, .inl men)), (m14, .inl (km14, 300, .inl (upd mka mk.toNatClampNeg ma))), (m15, .inl (km15, 300, .inl mki)), (m16, .inl (km16, 300, .inl mko)), (m17, .inl (km17, 6000, .inl mkp)), (m18, .inl (km18, 6000, .inl mke)), (m19, .inl (km19, 2700, .inl mkb))] := hD
    obtain ⟨g_1, e_g_1⟩ : ∃ y, y = upd mka mk.toNatClampNeg ma := ⟨_, rfl⟩
    rw [← e_g_1] at hP hD
    refine lv_aload_n hx hb dX5_keep_174 rfl (lv_at hl 0 rfl) ?_
    refine va_get (D := (dC, dI)) (ci := 6) (v := .ref m15) (C := RX5) (T := TX5) (N := 27) hx hb hts (by decide +kernel) hown hK hP 0 rfl rfl 22 (by decide) (hts (.fieldLink RX5 54 "CobolDebuggerModel" "keptItems" "[I") (by decide +kernel)) (fun _ h9 => h9) rfl dX5_keep_175 ?_
    refine lv_aload_n hx hb dX5_keep_178 rfl (lv_at hl 0 rfl) ?_
    refine va_get (D := (dC, dI)) (ci := 6) (v := .int mk) (C := RX5) (T := TX5) (N := 27) hx hb hts (by decide +kernel) hown hK hP 0 rfl rfl 6 (by decide) (hts (.fieldLink RX5 113 "CobolDebuggerModel" "kept" "I") (by decide +kernel)) (fun _ h9 => h9) rfl dX5_keep_179 ?_
    refine lv_aload_n hx hb dX5_keep_182 rfl (lv_at hl 0 rfl) ?_
    refine va_get (D := (dC, dI)) (ci := 6) (v := .ref m3) (C := RX5) (T := TX5) (N := 27) hx hb hts (by decide +kernel) hown hK hP 0 rfl rfl 10 (by decide) (hts (.fieldLink RX5 16 "CobolDebuggerModel" "does" "[I") (by decide +kernel)) (fun _ h9 => h9) rfl dX5_keep_183 ?_
    refine lv_aload_n hx hb dX5_keep_186 rfl (lv_at hl 0 rfl) ?_
    refine va_get (D := (dC, dI)) (ci := 6) (v := .int ma) (C := RX5) (T := TX5) (N := 27) hx hb hts (by decide +kernel) hown hK hP 0 rfl rfl 4 (by decide) (hts (.fieldLink RX5 79 "CobolDebuggerModel" "at" "I") (by decide +kernel)) (fun _ h9 => h9) rfl dX5_keep_187 ?_
    refine va_iald hx hb hK hP 1 0 rfl rfl (i := ma) hmx dX5_keep_190 ?_
    refine va_iast hx hb hK hP hD hS 6 5 rfl rfl (i := mk) hkx dX5_keep_191 (fun H locs hP hD hS => ?_)
    have hP : va_P (dC, dI) vwCl [(m0, .inr (6, [.int ce, .int ms, .int mi, .int mt, .int ma, .int mf, .int mk, .int mp, .ref m1, .ref m2, .ref m3, .ref m4, .ref m5, .ref m6, .ref m7, .ref m8, .ref m9, .ref m10, .ref m11, .ref m12, .ref m13, .ref m14, .ref m15, .ref m16, .ref m17, .ref m18, .ref m19])), (m3, .inl (km3, 102, .inl mds)), (m7, .inl (km7, 270, .inl mbs)), (m12, .inl (km12, 20, .inl mpf)), (m13, .inl (km13, 20, .inl men)), (m14, .inl (km14, 300, .inl g_1)), (m15, .inl (km15, 300, .inl (upd mki mk.toNatClampNeg (mds ma.toNatClampNeg)))), (m16, .inl (km16, 300, .inl mko)), (m17, .inl (km17, 6000, .inl mkp)), (m18, .inl (km18, 6000, .inl mke)), (m19, .inl (km19, 2700, .inl mkb))] H := hP
    have hD : va_D A [(m0, .inr (6, [.int ce, .int ms, .int mi, .int mt, .int ma, .int mf, .int mk, .int mp, .ref m1, .ref m2, .ref m3, .ref m4, .ref m5, .ref m6, .ref m7, .ref m8, .ref m9, .ref m10, .ref m11, .ref m12, .ref m13, .ref m14, .ref m15, .ref m16, .ref m17, .ref m18, .ref m19])), (m3, .inl (km3, 102, .inl mds)), (m7, .inl (km7, 270, .inl mbs)), (m12, .inl (km12, 20, .inl mpf)), (m13, .inl (km13, 20, .inl men)), (m14, .inl (km14, 300, .inl g_1)), (m15, .inl (km15, 300, .inl (upd mki mk.toNatClampNeg (mds ma.toNatClampNeg)))), (m16, .inl (km16, 300, .inl mko)), (m17, .inl (km17, 6000, .inl mkp)), (m18, .inl (km18, 6000, .inl mke)), (m19, .inl (km19, 2700, .inl mkb))] := hD
    obtain ⟨g_2, e_g_2⟩ : ∃ y, y = upd mki mk.toNatClampNeg (mds ma.toNatClampNeg) := ⟨_, rfl⟩
    rw [← e_g_2] at hP hD
    refine lv_aload_n hx hb dX5_keep_192 rfl (lv_at hl 0 rfl) ?_
    refine va_get (D := (dC, dI)) (ci := 6) (v := .ref m16) (C := RX5) (T := TX5) (N := 27) hx hb hts (by decide +kernel) hown hK hP 0 rfl rfl 23 (by decide) (hts (.fieldLink RX5 57 "CobolDebuggerModel" "keptOpen" "[I") (by decide +kernel)) (fun _ h9 => h9) rfl dX5_keep_193 ?_
    refine lv_aload_n hx hb dX5_keep_196 rfl (lv_at hl 0 rfl) ?_
    refine va_get (D := (dC, dI)) (ci := 6) (v := .int mk) (C := RX5) (T := TX5) (N := 27) hx hb hts (by decide +kernel) hown hK hP 0 rfl rfl 6 (by decide) (hts (.fieldLink RX5 113 "CobolDebuggerModel" "kept" "I") (by decide +kernel)) (fun _ h9 => h9) rfl dX5_keep_197 ?_
    refine lv_aload_n hx hb dX5_keep_200 rfl (lv_at hl 0 rfl) ?_
    refine va_get (D := (dC, dI)) (ci := 6) (v := .int mp) (C := RX5) (T := TX5) (N := 27) hx hb hts (by decide +kernel) hown hK hP 0 rfl rfl 7 (by decide) (hts (.fieldLink RX5 116 "CobolDebuggerModel" "open" "I") (by decide +kernel)) (fun _ h9 => h9) rfl dX5_keep_201 ?_
    refine va_iast hx hb hK hP hD hS 7 6 rfl rfl (i := mk) hkx dX5_keep_204 (fun H locs hP hD hS => ?_)
    have hP : va_P (dC, dI) vwCl [(m0, .inr (6, [.int ce, .int ms, .int mi, .int mt, .int ma, .int mf, .int mk, .int mp, .ref m1, .ref m2, .ref m3, .ref m4, .ref m5, .ref m6, .ref m7, .ref m8, .ref m9, .ref m10, .ref m11, .ref m12, .ref m13, .ref m14, .ref m15, .ref m16, .ref m17, .ref m18, .ref m19])), (m3, .inl (km3, 102, .inl mds)), (m7, .inl (km7, 270, .inl mbs)), (m12, .inl (km12, 20, .inl mpf)), (m13, .inl (km13, 20, .inl men)), (m14, .inl (km14, 300, .inl g_1)), (m15, .inl (km15, 300, .inl g_2)), (m16, .inl (km16, 300, .inl (upd mko mk.toNatClampNeg mp))), (m17, .inl (km17, 6000, .inl mkp)), (m18, .inl (km18, 6000, .inl mke)), (m19, .inl (km19, 2700, .inl mkb))] H := hP
    have hD : va_D A [(m0, .inr (6, [.int ce, .int ms, .int mi, .int mt, .int ma, .int mf, .int mk, .int mp, .ref m1, .ref m2, .ref m3, .ref m4, .ref m5, .ref m6, .ref m7, .ref m8, .ref m9, .ref m10, .ref m11, .ref m12, .ref m13, .ref m14, .ref m15, .ref m16, .ref m17, .ref m18, .ref m19])), (m3, .inl (km3, 102, .inl mds)), (m7, .inl (km7, 270, .inl mbs)), (m12, .inl (km12, 20, .inl mpf)), (m13, .inl (km13, 20, .inl men)), (m14, .inl (km14, 300, .inl g_1)), (m15, .inl (km15, 300, .inl g_2)), (m16, .inl (km16, 300, .inl (upd mko mk.toNatClampNeg mp))), (m17, .inl (km17, 6000, .inl mkp)), (m18, .inl (km18, 6000, .inl mke)), (m19, .inl (km19, 2700, .inl mkb))] := hD
    obtain ⟨g_3, e_g_3⟩ : ∃ y, y = upd mko mk.toNatClampNeg mp := ⟨_, rfl⟩
    rw [← e_g_3] at hP hD
    refine lv_iconst (v := 0) hx hb dX5_keep_205 (by decide) ?_
    refine lv_istore_n (lv' := [(1, .int 0), (0, .ref m0)]) hx hb dX5_keep_206 rfl hl (by decide) rfl (fun ls hl => ?_)
    refine wl2 (μ := fun (i : Int32) (by9 : Nat → Int32) => (9 - i.toInt).toNat) (I := fun (i : Int32) (by9 : Nat → Int32) (ls : Array Slot) (H : Heap) (locs : List Loc) => lv_has ls 2 [(0, .ref m0), (1, .int i)] ∧ va_P (dC, dI) vwCl [(m0, .inr (6, [.int ce, .int ms, .int mi, .int mt, .int ma, .int mf, .int mk, .int mp, .ref m1, .ref m2, .ref m3, .ref m4, .ref m5, .ref m6, .ref m7, .ref m8, .ref m9, .ref m10, .ref m11, .ref m12, .ref m13, .ref m14, .ref m15, .ref m16, .ref m17, .ref m18, .ref m19])), (m3, .inl (km3, 102, .inl mds)), (m7, .inl (km7, 270, .inl mbs)), (m12, .inl (km12, 20, .inl mpf)), (m13, .inl (km13, 20, .inl men)), (m14, .inl (km14, 300, .inl g_1)), (m15, .inl (km15, 300, .inl g_2)), (m16, .inl (km16, 300, .inl g_3)), (m17, .inl (km17, 6000, .inl mkp)), (m18, .inl (km18, 6000, .inl mke)), (m19, .inl (km19, 2700, .inl by9))] H ∧ va_D A [(m0, .inr (6, [.int ce, .int ms, .int mi, .int mt, .int ma, .int mf, .int mk, .int mp, .ref m1, .ref m2, .ref m3, .ref m4, .ref m5, .ref m6, .ref m7, .ref m8, .ref m9, .ref m10, .ref m11, .ref m12, .ref m13, .ref m14, .ref m15, .ref m16, .ref m17, .ref m18, .ref m19])), (m3, .inl (km3, 102, .inl mds)), (m7, .inl (km7, 270, .inl mbs)), (m12, .inl (km12, 20, .inl mpf)), (m13, .inl (km13, 20, .inl men)), (m14, .inl (km14, 300, .inl g_1)), (m15, .inl (km15, 300, .inl g_2)), (m16, .inl (km16, 300, .inl g_3)), (m17, .inl (km17, 6000, .inl mkp)), (m18, .inl (km18, 6000, .inl mke)), (m19, .inl (km19, 2700, .inl by9))] ∧ va_S A s.heap H locs ∧ (0 ≤ i.toInt)) (fun i by9 ls H locs hI ih => ?_) 0 mkb ls _ _ ⟨lv_sub hl [1, 0] rfl, hP, hD, hS, by decide⟩
    obtain ⟨hl, hP, hD, hS, hi0⟩ := hI
    refine lv_iload_n hx hb dX5_keep_207 rfl (lv_at hl 1 rfl) ?_
    refine lv_bipush (v := 9) hx hb dX5_keep_208 (by decide) ?_
    refine lv_icmp_ge (tgt := 264) hx hb dX5_keep_210 (by decide) (fun c_210 => ?_) (fun c_210 => ?_)
    · refine lv_iconst (v := 0) hx hb dX5_keep_264 (by decide) ?_
      refine lv_istore_n (lv' := [(1, .int 0), (0, .ref m0)]) hx hb dX5_keep_265 rfl hl (by decide) rfl (fun ls hl => ?_)
      refine wl3 (μ := fun (i : Int32) (py : Nat → Int32) (ey : Nat → Int32) => (20 - i.toInt).toNat) (I := fun (i : Int32) (py : Nat → Int32) (ey : Nat → Int32) (ls : Array Slot) (H : Heap) (locs : List Loc) => lv_has ls 2 [(0, .ref m0), (1, .int i)] ∧ va_P (dC, dI) vwCl [(m0, .inr (6, [.int ce, .int ms, .int mi, .int mt, .int ma, .int mf, .int mk, .int mp, .ref m1, .ref m2, .ref m3, .ref m4, .ref m5, .ref m6, .ref m7, .ref m8, .ref m9, .ref m10, .ref m11, .ref m12, .ref m13, .ref m14, .ref m15, .ref m16, .ref m17, .ref m18, .ref m19])), (m3, .inl (km3, 102, .inl mds)), (m7, .inl (km7, 270, .inl mbs)), (m12, .inl (km12, 20, .inl mpf)), (m13, .inl (km13, 20, .inl men)), (m14, .inl (km14, 300, .inl g_1)), (m15, .inl (km15, 300, .inl g_2)), (m16, .inl (km16, 300, .inl g_3)), (m17, .inl (km17, 6000, .inl py)), (m18, .inl (km18, 6000, .inl ey)), (m19, .inl (km19, 2700, .inl by9))] H ∧ va_D A [(m0, .inr (6, [.int ce, .int ms, .int mi, .int mt, .int ma, .int mf, .int mk, .int mp, .ref m1, .ref m2, .ref m3, .ref m4, .ref m5, .ref m6, .ref m7, .ref m8, .ref m9, .ref m10, .ref m11, .ref m12, .ref m13, .ref m14, .ref m15, .ref m16, .ref m17, .ref m18, .ref m19])), (m3, .inl (km3, 102, .inl mds)), (m7, .inl (km7, 270, .inl mbs)), (m12, .inl (km12, 20, .inl mpf)), (m13, .inl (km13, 20, .inl men)), (m14, .inl (km14, 300, .inl g_1)), (m15, .inl (km15, 300, .inl g_2)), (m16, .inl (km16, 300, .inl g_3)), (m17, .inl (km17, 6000, .inl py)), (m18, .inl (km18, 6000, .inl ey)), (m19, .inl (km19, 2700, .inl by9))] ∧ va_S A s.heap H locs ∧ (0 ≤ i.toInt) ∧ (∀ j, 0 ≤ (py j).toInt ∧ (py j).toInt ≤ ms.toInt)) (fun i py ey ls H locs hI ih => ?_) 0 mkp mke ls _ _ ⟨lv_sub hl [1, 0] rfl, hP, hD, hS, by decide, hkp⟩
      obtain ⟨hl, hP, hD, hS, hi0, hP9⟩ := hI
      refine lv_iload_n hx hb dX5_keep_266 rfl (lv_at hl 1 rfl) ?_
      refine lv_bipush (v := 20) hx hb dX5_keep_267 (by decide) ?_
      refine lv_icmp_ge (tgt := 318) hx hb dX5_keep_269 (by decide) (fun c_269 => ?_) (fun c_269 => ?_)
      · refine lv_aload_n hx hb dX5_keep_318 rfl (lv_at hl 0 rfl) ?_
        refine lv_dup hx hb dX5_keep_319 rfl ?_
        refine va_get (D := (dC, dI)) (ci := 6) (v := .int mk) (C := RX5) (T := TX5) (N := 27) hx hb hts (by decide +kernel) hown hK hP 0 rfl rfl 6 (by decide) (hts (.fieldLink RX5 113 "CobolDebuggerModel" "kept" "I") (by decide +kernel)) (fun _ h9 => h9) rfl dX5_keep_320 ?_
        refine lv_iconst (v := 1) hx hb dX5_keep_323 (by decide) ?_
        refine lv_iadd hx hb dX5_keep_324 ?_
        refine lv_topi (fun v_4 e_v_4 => ?_)
        refine va_put (D := (dC, dI)) (ci := 6) (v := .int v_4) (ty := .int) (C := RX5) (T := TX5) (N := 27) hx hb hts (by decide +kernel) tyX5 tyX5_ok nmX5 hown hK hP hD hS 0 rfl rfl 6 (by decide) (hts (.fieldLink RX5 113 "CobolDebuggerModel" "kept" "I") (by decide +kernel)) (fun _ h9 => h9) rfl (by decide +kernel) rfl rfl (Nat.le_of_ble_eq_true rfl) dX5_keep_325 (fun H locs hP hD hS => ?_)
        have hP : va_P (dC, dI) vwCl [(m0, .inr (6, [.int ce, .int ms, .int mi, .int mt, .int ma, .int mf, .int v_4, .int mp, .ref m1, .ref m2, .ref m3, .ref m4, .ref m5, .ref m6, .ref m7, .ref m8, .ref m9, .ref m10, .ref m11, .ref m12, .ref m13, .ref m14, .ref m15, .ref m16, .ref m17, .ref m18, .ref m19])), (m3, .inl (km3, 102, .inl mds)), (m7, .inl (km7, 270, .inl mbs)), (m12, .inl (km12, 20, .inl mpf)), (m13, .inl (km13, 20, .inl men)), (m14, .inl (km14, 300, .inl g_1)), (m15, .inl (km15, 300, .inl g_2)), (m16, .inl (km16, 300, .inl g_3)), (m17, .inl (km17, 6000, .inl py)), (m18, .inl (km18, 6000, .inl ey)), (m19, .inl (km19, 2700, .inl by9))] H := hP
        have hD : va_D A [(m0, .inr (6, [.int ce, .int ms, .int mi, .int mt, .int ma, .int mf, .int v_4, .int mp, .ref m1, .ref m2, .ref m3, .ref m4, .ref m5, .ref m6, .ref m7, .ref m8, .ref m9, .ref m10, .ref m11, .ref m12, .ref m13, .ref m14, .ref m15, .ref m16, .ref m17, .ref m18, .ref m19])), (m3, .inl (km3, 102, .inl mds)), (m7, .inl (km7, 270, .inl mbs)), (m12, .inl (km12, 20, .inl mpf)), (m13, .inl (km13, 20, .inl men)), (m14, .inl (km14, 300, .inl g_1)), (m15, .inl (km15, 300, .inl g_2)), (m16, .inl (km16, 300, .inl g_3)), (m17, .inl (km17, 6000, .inl py)), (m18, .inl (km18, 6000, .inl ey)), (m19, .inl (km19, 2700, .inl by9))] := hD
        exact W.vret hx hb hr (fun t ht hW => ⟨⟨(v_4, g_1, g_2, g_3, py, ey, by9), rfl, ⟨by rw [e_v_4, i_p1 (by omega) (by omega)]; omega, by rw [e_v_4, i_p1 (by omega) (by omega)]; omega, by rw [e_g_1]; exact up_all (P := fun x => 0 ≤ x.toInt ∧ x.toInt ≤ ms.toInt) hA9 hma, by rw [e_g_2]; exact up_all (P := fun x => x.toInt < 30) hI9 hdi, by rw [e_g_3]; exact up_all (P := fun x => 0 ≤ x.toInt ∧ x.toInt ≤ 20) hO9 ⟨hp0, hp1⟩, hP9⟩, by rw [ht]; exact hP, hD⟩, hS.F ht⟩) hS.2.2 dX5_keep_328
      · have hlt : i.toInt < 20 := n_lt c_269
        refine lv_aload_n hx hb dX5_keep_272 rfl (lv_at hl 0 rfl) ?_
        refine va_get (D := (dC, dI)) (ci := 6) (v := .ref m17) (C := RX5) (T := TX5) (N := 27) hx hb hts (by decide +kernel) hown hK hP 0 rfl rfl 24 (by decide) (hts (.fieldLink RX5 60 "CobolDebuggerModel" "keptPerformed" "[I") (by decide +kernel)) (fun _ h9 => h9) rfl dX5_keep_273 ?_
        refine lv_bipush (v := 20) hx hb dX5_keep_276 (by decide) ?_
        refine lv_aload_n hx hb dX5_keep_278 rfl (lv_at hl 0 rfl) ?_
        refine va_get (D := (dC, dI)) (ci := 6) (v := .int mk) (C := RX5) (T := TX5) (N := 27) hx hb hts (by decide +kernel) hown hK hP 0 rfl rfl 6 (by decide) (hts (.fieldLink RX5 113 "CobolDebuggerModel" "kept" "I") (by decide +kernel)) (fun _ h9 => h9) rfl dX5_keep_279 ?_
        refine lv_imul hx hb dX5_keep_282 ?_
        refine lv_iload_n hx hb dX5_keep_283 rfl (lv_at hl 1 rfl) ?_
        refine lv_iadd hx hb dX5_keep_284 ?_
        refine lv_aload_n hx hb dX5_keep_285 rfl (lv_at hl 0 rfl) ?_
        refine va_get (D := (dC, dI)) (ci := 6) (v := .ref m12) (C := RX5) (T := TX5) (N := 27) hx hb hts (by decide +kernel) hown hK hP 0 rfl rfl 19 (by decide) (hts (.fieldLink RX5 45 "CobolDebuggerModel" "performed" "[I") (by decide +kernel)) (fun _ h9 => h9) rfl dX5_keep_286 ?_
        refine lv_iload_n hx hb dX5_keep_289 rfl (lv_at hl 1 rfl) ?_
        refine va_iald hx hb hK hP 3 2 rfl rfl (i := i) (ix_r hi0 hlt) dX5_keep_290 ?_
        refine va_iast hx hb hK hP hD hS 8 7 rfl rfl (i := (20 * mk) + i) (ix_row (w := 20) (n := 300) (by decide) hkx hi0 hlt rfl (by decide) (by decide) (by decide)) dX5_keep_291 (fun H locs hP hD hS => ?_)
        have hP : va_P (dC, dI) vwCl [(m0, .inr (6, [.int ce, .int ms, .int mi, .int mt, .int ma, .int mf, .int mk, .int mp, .ref m1, .ref m2, .ref m3, .ref m4, .ref m5, .ref m6, .ref m7, .ref m8, .ref m9, .ref m10, .ref m11, .ref m12, .ref m13, .ref m14, .ref m15, .ref m16, .ref m17, .ref m18, .ref m19])), (m3, .inl (km3, 102, .inl mds)), (m7, .inl (km7, 270, .inl mbs)), (m12, .inl (km12, 20, .inl mpf)), (m13, .inl (km13, 20, .inl men)), (m14, .inl (km14, 300, .inl g_1)), (m15, .inl (km15, 300, .inl g_2)), (m16, .inl (km16, 300, .inl g_3)), (m17, .inl (km17, 6000, .inl (upd py ((20 * mk) + i).toNatClampNeg (mpf i.toNatClampNeg)))), (m18, .inl (km18, 6000, .inl ey)), (m19, .inl (km19, 2700, .inl by9))] H := hP
        have hD : va_D A [(m0, .inr (6, [.int ce, .int ms, .int mi, .int mt, .int ma, .int mf, .int mk, .int mp, .ref m1, .ref m2, .ref m3, .ref m4, .ref m5, .ref m6, .ref m7, .ref m8, .ref m9, .ref m10, .ref m11, .ref m12, .ref m13, .ref m14, .ref m15, .ref m16, .ref m17, .ref m18, .ref m19])), (m3, .inl (km3, 102, .inl mds)), (m7, .inl (km7, 270, .inl mbs)), (m12, .inl (km12, 20, .inl mpf)), (m13, .inl (km13, 20, .inl men)), (m14, .inl (km14, 300, .inl g_1)), (m15, .inl (km15, 300, .inl g_2)), (m16, .inl (km16, 300, .inl g_3)), (m17, .inl (km17, 6000, .inl (upd py ((20 * mk) + i).toNatClampNeg (mpf i.toNatClampNeg)))), (m18, .inl (km18, 6000, .inl ey)), (m19, .inl (km19, 2700, .inl by9))] := hD
        obtain ⟨g_5, e_g_5⟩ : ∃ y, y = upd py ((20 * mk) + i).toNatClampNeg (mpf i.toNatClampNeg) := ⟨_, rfl⟩
        rw [← e_g_5] at hP hD
        refine lv_aload_n hx hb dX5_keep_292 rfl (lv_at hl 0 rfl) ?_
        refine va_get (D := (dC, dI)) (ci := 6) (v := .ref m18) (C := RX5) (T := TX5) (N := 27) hx hb hts (by decide +kernel) hown hK hP 0 rfl rfl 25 (by decide) (hts (.fieldLink RX5 63 "CobolDebuggerModel" "keptEnds" "[I") (by decide +kernel)) (fun _ h9 => h9) rfl dX5_keep_293 ?_
        refine lv_bipush (v := 20) hx hb dX5_keep_296 (by decide) ?_
        refine lv_aload_n hx hb dX5_keep_298 rfl (lv_at hl 0 rfl) ?_
        refine va_get (D := (dC, dI)) (ci := 6) (v := .int mk) (C := RX5) (T := TX5) (N := 27) hx hb hts (by decide +kernel) hown hK hP 0 rfl rfl 6 (by decide) (hts (.fieldLink RX5 113 "CobolDebuggerModel" "kept" "I") (by decide +kernel)) (fun _ h9 => h9) rfl dX5_keep_299 ?_
        refine lv_imul hx hb dX5_keep_302 ?_
        refine lv_iload_n hx hb dX5_keep_303 rfl (lv_at hl 1 rfl) ?_
        refine lv_iadd hx hb dX5_keep_304 ?_
        refine lv_aload_n hx hb dX5_keep_305 rfl (lv_at hl 0 rfl) ?_
        refine va_get (D := (dC, dI)) (ci := 6) (v := .ref m13) (C := RX5) (T := TX5) (N := 27) hx hb hts (by decide +kernel) hown hK hP 0 rfl rfl 20 (by decide) (hts (.fieldLink RX5 48 "CobolDebuggerModel" "ends" "[I") (by decide +kernel)) (fun _ h9 => h9) rfl dX5_keep_306 ?_
        refine lv_iload_n hx hb dX5_keep_309 rfl (lv_at hl 1 rfl) ?_
        refine va_iald hx hb hK hP 4 3 rfl rfl (i := i) (ix_r hi0 hlt) dX5_keep_310 ?_
        refine va_iast hx hb hK hP hD hS 9 8 rfl rfl (i := (20 * mk) + i) (ix_row (w := 20) (n := 300) (by decide) hkx hi0 hlt rfl (by decide) (by decide) (by decide)) dX5_keep_311 (fun H locs hP hD hS => ?_)
        have hP : va_P (dC, dI) vwCl [(m0, .inr (6, [.int ce, .int ms, .int mi, .int mt, .int ma, .int mf, .int mk, .int mp, .ref m1, .ref m2, .ref m3, .ref m4, .ref m5, .ref m6, .ref m7, .ref m8, .ref m9, .ref m10, .ref m11, .ref m12, .ref m13, .ref m14, .ref m15, .ref m16, .ref m17, .ref m18, .ref m19])), (m3, .inl (km3, 102, .inl mds)), (m7, .inl (km7, 270, .inl mbs)), (m12, .inl (km12, 20, .inl mpf)), (m13, .inl (km13, 20, .inl men)), (m14, .inl (km14, 300, .inl g_1)), (m15, .inl (km15, 300, .inl g_2)), (m16, .inl (km16, 300, .inl g_3)), (m17, .inl (km17, 6000, .inl g_5)), (m18, .inl (km18, 6000, .inl (upd ey ((20 * mk) + i).toNatClampNeg (men i.toNatClampNeg)))), (m19, .inl (km19, 2700, .inl by9))] H := hP
        have hD : va_D A [(m0, .inr (6, [.int ce, .int ms, .int mi, .int mt, .int ma, .int mf, .int mk, .int mp, .ref m1, .ref m2, .ref m3, .ref m4, .ref m5, .ref m6, .ref m7, .ref m8, .ref m9, .ref m10, .ref m11, .ref m12, .ref m13, .ref m14, .ref m15, .ref m16, .ref m17, .ref m18, .ref m19])), (m3, .inl (km3, 102, .inl mds)), (m7, .inl (km7, 270, .inl mbs)), (m12, .inl (km12, 20, .inl mpf)), (m13, .inl (km13, 20, .inl men)), (m14, .inl (km14, 300, .inl g_1)), (m15, .inl (km15, 300, .inl g_2)), (m16, .inl (km16, 300, .inl g_3)), (m17, .inl (km17, 6000, .inl g_5)), (m18, .inl (km18, 6000, .inl (upd ey ((20 * mk) + i).toNatClampNeg (men i.toNatClampNeg)))), (m19, .inl (km19, 2700, .inl by9))] := hD
        obtain ⟨g_6, e_g_6⟩ : ∃ y, y = upd ey ((20 * mk) + i).toNatClampNeg (men i.toNatClampNeg) := ⟨_, rfl⟩
        rw [← e_g_6] at hP hD
        obtain ⟨i_7, e_i_7⟩ : ∃ y : Int32, y = i + 1 := ⟨_, rfl⟩
        refine lv_iinc (v := i_7) (lv' := [(1, .int i_7), (0, .ref m0)]) hx hb dX5_keep_312 hl (k := 1) rfl (by rw [e_i_7]; rfl) (by decide) rfl (fun ls hl => ?_)
        refine lv_goto (tgt := 266) hx hb dX5_keep_315 (by decide) ?_
        exact ih i_7 g_5 g_6 _ _ _ ⟨lv_sub hl [1, 0] rfl, hP, hD, hS, by rw [e_i_7, i_p1 (by omega) (by omega)]; omega, by rw [e_g_5]; exact up_all (P := fun x => 0 ≤ x.toInt ∧ x.toInt ≤ ms.toInt) hP9 (hpf _)⟩ (by rw [e_i_7, i_p1 (by omega) (by omega)]; omega)
    · have hlt : i.toInt < 9 := n_lt c_210
      refine lv_aload_n hx hb dX5_keep_213 rfl (lv_at hl 0 rfl) ?_
      refine va_get (D := (dC, dI)) (ci := 6) (v := .ref m3) (C := RX5) (T := TX5) (N := 27) hx hb hts (by decide +kernel) hown hK hP 0 rfl rfl 10 (by decide) (hts (.fieldLink RX5 16 "CobolDebuggerModel" "does" "[I") (by decide +kernel)) (fun _ h9 => h9) rfl dX5_keep_214 ?_
      refine lv_aload_n hx hb dX5_keep_217 rfl (lv_at hl 0 rfl) ?_
      refine va_get (D := (dC, dI)) (ci := 6) (v := .int ma) (C := RX5) (T := TX5) (N := 27) hx hb hts (by decide +kernel) hown hK hP 0 rfl rfl 4 (by decide) (hts (.fieldLink RX5 79 "CobolDebuggerModel" "at" "I") (by decide +kernel)) (fun _ h9 => h9) rfl dX5_keep_218 ?_
      refine va_iald hx hb hK hP 1 0 rfl rfl (i := ma) hmx dX5_keep_221 ?_
      refine lv_if_lt (tgt := 264) hx hb dX5_keep_222 (by decide) (fun c_222 => ?_) (fun c_222 => ?_)
      · refine lv_iconst (v := 0) hx hb dX5_keep_264 (by decide) ?_
        refine lv_istore_n (lv' := [(1, .int 0), (0, .ref m0)]) hx hb dX5_keep_265 rfl hl (by decide) rfl (fun ls hl => ?_)
        refine wl3 (μ := fun (i : Int32) (py : Nat → Int32) (ey : Nat → Int32) => (20 - i.toInt).toNat) (I := fun (i : Int32) (py : Nat → Int32) (ey : Nat → Int32) (ls : Array Slot) (H : Heap) (locs : List Loc) => lv_has ls 2 [(0, .ref m0), (1, .int i)] ∧ va_P (dC, dI) vwCl [(m0, .inr (6, [.int ce, .int ms, .int mi, .int mt, .int ma, .int mf, .int mk, .int mp, .ref m1, .ref m2, .ref m3, .ref m4, .ref m5, .ref m6, .ref m7, .ref m8, .ref m9, .ref m10, .ref m11, .ref m12, .ref m13, .ref m14, .ref m15, .ref m16, .ref m17, .ref m18, .ref m19])), (m3, .inl (km3, 102, .inl mds)), (m7, .inl (km7, 270, .inl mbs)), (m12, .inl (km12, 20, .inl mpf)), (m13, .inl (km13, 20, .inl men)), (m14, .inl (km14, 300, .inl g_1)), (m15, .inl (km15, 300, .inl g_2)), (m16, .inl (km16, 300, .inl g_3)), (m17, .inl (km17, 6000, .inl py)), (m18, .inl (km18, 6000, .inl ey)), (m19, .inl (km19, 2700, .inl by9))] H ∧ va_D A [(m0, .inr (6, [.int ce, .int ms, .int mi, .int mt, .int ma, .int mf, .int mk, .int mp, .ref m1, .ref m2, .ref m3, .ref m4, .ref m5, .ref m6, .ref m7, .ref m8, .ref m9, .ref m10, .ref m11, .ref m12, .ref m13, .ref m14, .ref m15, .ref m16, .ref m17, .ref m18, .ref m19])), (m3, .inl (km3, 102, .inl mds)), (m7, .inl (km7, 270, .inl mbs)), (m12, .inl (km12, 20, .inl mpf)), (m13, .inl (km13, 20, .inl men)), (m14, .inl (km14, 300, .inl g_1)), (m15, .inl (km15, 300, .inl g_2)), (m16, .inl (km16, 300, .inl g_3)), (m17, .inl (km17, 6000, .inl py)), (m18, .inl (km18, 6000, .inl ey)), (m19, .inl (km19, 2700, .inl by9))] ∧ va_S A s.heap H locs ∧ (0 ≤ i.toInt) ∧ (∀ j, 0 ≤ (py j).toInt ∧ (py j).toInt ≤ ms.toInt)) (fun i py ey ls H locs hI ih => ?_) 0 mkp mke ls _ _ ⟨lv_sub hl [1, 0] rfl, hP, hD, hS, by decide, hkp⟩
        obtain ⟨hl, hP, hD, hS, hi0, hP9⟩ := hI
        refine lv_iload_n hx hb dX5_keep_266 rfl (lv_at hl 1 rfl) ?_
        refine lv_bipush (v := 20) hx hb dX5_keep_267 (by decide) ?_
        refine lv_icmp_ge (tgt := 318) hx hb dX5_keep_269 (by decide) (fun c_269 => ?_) (fun c_269 => ?_)
        · refine lv_aload_n hx hb dX5_keep_318 rfl (lv_at hl 0 rfl) ?_
          refine lv_dup hx hb dX5_keep_319 rfl ?_
          refine va_get (D := (dC, dI)) (ci := 6) (v := .int mk) (C := RX5) (T := TX5) (N := 27) hx hb hts (by decide +kernel) hown hK hP 0 rfl rfl 6 (by decide) (hts (.fieldLink RX5 113 "CobolDebuggerModel" "kept" "I") (by decide +kernel)) (fun _ h9 => h9) rfl dX5_keep_320 ?_
          refine lv_iconst (v := 1) hx hb dX5_keep_323 (by decide) ?_
          refine lv_iadd hx hb dX5_keep_324 ?_
          refine lv_topi (fun v_8 e_v_8 => ?_)
          refine va_put (D := (dC, dI)) (ci := 6) (v := .int v_8) (ty := .int) (C := RX5) (T := TX5) (N := 27) hx hb hts (by decide +kernel) tyX5 tyX5_ok nmX5 hown hK hP hD hS 0 rfl rfl 6 (by decide) (hts (.fieldLink RX5 113 "CobolDebuggerModel" "kept" "I") (by decide +kernel)) (fun _ h9 => h9) rfl (by decide +kernel) rfl rfl (Nat.le_of_ble_eq_true rfl) dX5_keep_325 (fun H locs hP hD hS => ?_)
          have hP : va_P (dC, dI) vwCl [(m0, .inr (6, [.int ce, .int ms, .int mi, .int mt, .int ma, .int mf, .int v_8, .int mp, .ref m1, .ref m2, .ref m3, .ref m4, .ref m5, .ref m6, .ref m7, .ref m8, .ref m9, .ref m10, .ref m11, .ref m12, .ref m13, .ref m14, .ref m15, .ref m16, .ref m17, .ref m18, .ref m19])), (m3, .inl (km3, 102, .inl mds)), (m7, .inl (km7, 270, .inl mbs)), (m12, .inl (km12, 20, .inl mpf)), (m13, .inl (km13, 20, .inl men)), (m14, .inl (km14, 300, .inl g_1)), (m15, .inl (km15, 300, .inl g_2)), (m16, .inl (km16, 300, .inl g_3)), (m17, .inl (km17, 6000, .inl py)), (m18, .inl (km18, 6000, .inl ey)), (m19, .inl (km19, 2700, .inl by9))] H := hP
          have hD : va_D A [(m0, .inr (6, [.int ce, .int ms, .int mi, .int mt, .int ma, .int mf, .int v_8, .int mp, .ref m1, .ref m2, .ref m3, .ref m4, .ref m5, .ref m6, .ref m7, .ref m8, .ref m9, .ref m10, .ref m11, .ref m12, .ref m13, .ref m14, .ref m15, .ref m16, .ref m17, .ref m18, .ref m19])), (m3, .inl (km3, 102, .inl mds)), (m7, .inl (km7, 270, .inl mbs)), (m12, .inl (km12, 20, .inl mpf)), (m13, .inl (km13, 20, .inl men)), (m14, .inl (km14, 300, .inl g_1)), (m15, .inl (km15, 300, .inl g_2)), (m16, .inl (km16, 300, .inl g_3)), (m17, .inl (km17, 6000, .inl py)), (m18, .inl (km18, 6000, .inl ey)), (m19, .inl (km19, 2700, .inl by9))] := hD
          exact W.vret hx hb hr (fun t ht hW => ⟨⟨(v_8, g_1, g_2, g_3, py, ey, by9), rfl, ⟨by rw [e_v_8, i_p1 (by omega) (by omega)]; omega, by rw [e_v_8, i_p1 (by omega) (by omega)]; omega, by rw [e_g_1]; exact up_all (P := fun x => 0 ≤ x.toInt ∧ x.toInt ≤ ms.toInt) hA9 hma, by rw [e_g_2]; exact up_all (P := fun x => x.toInt < 30) hI9 hdi, by rw [e_g_3]; exact up_all (P := fun x => 0 ≤ x.toInt ∧ x.toInt ≤ 20) hO9 ⟨hp0, hp1⟩, hP9⟩, by rw [ht]; exact hP, hD⟩, hS.F ht⟩) hS.2.2 dX5_keep_328
        · have hlt : i.toInt < 20 := n_lt c_269
          refine lv_aload_n hx hb dX5_keep_272 rfl (lv_at hl 0 rfl) ?_
          refine va_get (D := (dC, dI)) (ci := 6) (v := .ref m17) (C := RX5) (T := TX5) (N := 27) hx hb hts (by decide +kernel) hown hK hP 0 rfl rfl 24 (by decide) (hts (.fieldLink RX5 60 "CobolDebuggerModel" "keptPerformed" "[I") (by decide +kernel)) (fun _ h9 => h9) rfl dX5_keep_273 ?_
          refine lv_bipush (v := 20) hx hb dX5_keep_276 (by decide) ?_
          refine lv_aload_n hx hb dX5_keep_278 rfl (lv_at hl 0 rfl) ?_
          refine va_get (D := (dC, dI)) (ci := 6) (v := .int mk) (C := RX5) (T := TX5) (N := 27) hx hb hts (by decide +kernel) hown hK hP 0 rfl rfl 6 (by decide) (hts (.fieldLink RX5 113 "CobolDebuggerModel" "kept" "I") (by decide +kernel)) (fun _ h9 => h9) rfl dX5_keep_279 ?_
          refine lv_imul hx hb dX5_keep_282 ?_
          refine lv_iload_n hx hb dX5_keep_283 rfl (lv_at hl 1 rfl) ?_
          refine lv_iadd hx hb dX5_keep_284 ?_
          refine lv_aload_n hx hb dX5_keep_285 rfl (lv_at hl 0 rfl) ?_
          refine va_get (D := (dC, dI)) (ci := 6) (v := .ref m12) (C := RX5) (T := TX5) (N := 27) hx hb hts (by decide +kernel) hown hK hP 0 rfl rfl 19 (by decide) (hts (.fieldLink RX5 45 "CobolDebuggerModel" "performed" "[I") (by decide +kernel)) (fun _ h9 => h9) rfl dX5_keep_286 ?_
          refine lv_iload_n hx hb dX5_keep_289 rfl (lv_at hl 1 rfl) ?_
          refine va_iald hx hb hK hP 3 2 rfl rfl (i := i) (ix_r hi0 hlt) dX5_keep_290 ?_
          refine va_iast hx hb hK hP hD hS 8 7 rfl rfl (i := (20 * mk) + i) (ix_row (w := 20) (n := 300) (by decide) hkx hi0 hlt rfl (by decide) (by decide) (by decide)) dX5_keep_291 (fun H locs hP hD hS => ?_)
          have hP : va_P (dC, dI) vwCl [(m0, .inr (6, [.int ce, .int ms, .int mi, .int mt, .int ma, .int mf, .int mk, .int mp, .ref m1, .ref m2, .ref m3, .ref m4, .ref m5, .ref m6, .ref m7, .ref m8, .ref m9, .ref m10, .ref m11, .ref m12, .ref m13, .ref m14, .ref m15, .ref m16, .ref m17, .ref m18, .ref m19])), (m3, .inl (km3, 102, .inl mds)), (m7, .inl (km7, 270, .inl mbs)), (m12, .inl (km12, 20, .inl mpf)), (m13, .inl (km13, 20, .inl men)), (m14, .inl (km14, 300, .inl g_1)), (m15, .inl (km15, 300, .inl g_2)), (m16, .inl (km16, 300, .inl g_3)), (m17, .inl (km17, 6000, .inl (upd py ((20 * mk) + i).toNatClampNeg (mpf i.toNatClampNeg)))), (m18, .inl (km18, 6000, .inl ey)), (m19, .inl (km19, 2700, .inl by9))] H := hP
          have hD : va_D A [(m0, .inr (6, [.int ce, .int ms, .int mi, .int mt, .int ma, .int mf, .int mk, .int mp, .ref m1, .ref m2, .ref m3, .ref m4, .ref m5, .ref m6, .ref m7, .ref m8, .ref m9, .ref m10, .ref m11, .ref m12, .ref m13, .ref m14, .ref m15, .ref m16, .ref m17, .ref m18, .ref m19])), (m3, .inl (km3, 102, .inl mds)), (m7, .inl (km7, 270, .inl mbs)), (m12, .inl (km12, 20, .inl mpf)), (m13, .inl (km13, 20, .inl men)), (m14, .inl (km14, 300, .inl g_1)), (m15, .inl (km15, 300, .inl g_2)), (m16, .inl (km16, 300, .inl g_3)), (m17, .inl (km17, 6000, .inl (upd py ((20 * mk) + i).toNatClampNeg (mpf i.toNatClampNeg)))), (m18, .inl (km18, 6000, .inl ey)), (m19, .inl (km19, 2700, .inl by9))] := hD
          obtain ⟨g_9, e_g_9⟩ : ∃ y, y = upd py ((20 * mk) + i).toNatClampNeg (mpf i.toNatClampNeg) := ⟨_, rfl⟩
          rw [← e_g_9] at hP hD
          refine lv_aload_n hx hb dX5_keep_292 rfl (lv_at hl 0 rfl) ?_
          refine va_get (D := (dC, dI)) (ci := 6) (v := .ref m18) (C := RX5) (T := TX5) (N := 27) hx hb hts (by decide +kernel) hown hK hP 0 rfl rfl 25 (by decide) (hts (.fieldLink RX5 63 "CobolDebuggerModel" "keptEnds" "[I") (by decide +kernel)) (fun _ h9 => h9) rfl dX5_keep_293 ?_
          refine lv_bipush (v := 20) hx hb dX5_keep_296 (by decide) ?_
          refine lv_aload_n hx hb dX5_keep_298 rfl (lv_at hl 0 rfl) ?_
          refine va_get (D := (dC, dI)) (ci := 6) (v := .int mk) (C := RX5) (T := TX5) (N := 27) hx hb hts (by decide +kernel) hown hK hP 0 rfl rfl 6 (by decide) (hts (.fieldLink RX5 113 "CobolDebuggerModel" "kept" "I") (by decide +kernel)) (fun _ h9 => h9) rfl dX5_keep_299 ?_
          refine lv_imul hx hb dX5_keep_302 ?_
          refine lv_iload_n hx hb dX5_keep_303 rfl (lv_at hl 1 rfl) ?_
          refine lv_iadd hx hb dX5_keep_304 ?_
          refine lv_aload_n hx hb dX5_keep_305 rfl (lv_at hl 0 rfl) ?_
          refine va_get (D := (dC, dI)) (ci := 6) (v := .ref m13) (C := RX5) (T := TX5) (N := 27) hx hb hts (by decide +kernel) hown hK hP 0 rfl rfl 20 (by decide) (hts (.fieldLink RX5 48 "CobolDebuggerModel" "ends" "[I") (by decide +kernel)) (fun _ h9 => h9) rfl dX5_keep_306 ?_
          refine lv_iload_n hx hb dX5_keep_309 rfl (lv_at hl 1 rfl) ?_
          refine va_iald hx hb hK hP 4 3 rfl rfl (i := i) (ix_r hi0 hlt) dX5_keep_310 ?_
          refine va_iast hx hb hK hP hD hS 9 8 rfl rfl (i := (20 * mk) + i) (ix_row (w := 20) (n := 300) (by decide) hkx hi0 hlt rfl (by decide) (by decide) (by decide)) dX5_keep_311 (fun H locs hP hD hS => ?_)
          have hP : va_P (dC, dI) vwCl [(m0, .inr (6, [.int ce, .int ms, .int mi, .int mt, .int ma, .int mf, .int mk, .int mp, .ref m1, .ref m2, .ref m3, .ref m4, .ref m5, .ref m6, .ref m7, .ref m8, .ref m9, .ref m10, .ref m11, .ref m12, .ref m13, .ref m14, .ref m15, .ref m16, .ref m17, .ref m18, .ref m19])), (m3, .inl (km3, 102, .inl mds)), (m7, .inl (km7, 270, .inl mbs)), (m12, .inl (km12, 20, .inl mpf)), (m13, .inl (km13, 20, .inl men)), (m14, .inl (km14, 300, .inl g_1)), (m15, .inl (km15, 300, .inl g_2)), (m16, .inl (km16, 300, .inl g_3)), (m17, .inl (km17, 6000, .inl g_9)), (m18, .inl (km18, 6000, .inl (upd ey ((20 * mk) + i).toNatClampNeg (men i.toNatClampNeg)))), (m19, .inl (km19, 2700, .inl by9))] H := hP
          have hD : va_D A [(m0, .inr (6, [.int ce, .int ms, .int mi, .int mt, .int ma, .int mf, .int mk, .int mp, .ref m1, .ref m2, .ref m3, .ref m4, .ref m5, .ref m6, .ref m7, .ref m8, .ref m9, .ref m10, .ref m11, .ref m12, .ref m13, .ref m14, .ref m15, .ref m16, .ref m17, .ref m18, .ref m19])), (m3, .inl (km3, 102, .inl mds)), (m7, .inl (km7, 270, .inl mbs)), (m12, .inl (km12, 20, .inl mpf)), (m13, .inl (km13, 20, .inl men)), (m14, .inl (km14, 300, .inl g_1)), (m15, .inl (km15, 300, .inl g_2)), (m16, .inl (km16, 300, .inl g_3)), (m17, .inl (km17, 6000, .inl g_9)), (m18, .inl (km18, 6000, .inl (upd ey ((20 * mk) + i).toNatClampNeg (men i.toNatClampNeg)))), (m19, .inl (km19, 2700, .inl by9))] := hD
          obtain ⟨g_10, e_g_10⟩ : ∃ y, y = upd ey ((20 * mk) + i).toNatClampNeg (men i.toNatClampNeg) := ⟨_, rfl⟩
          rw [← e_g_10] at hP hD
          obtain ⟨i_11, e_i_11⟩ : ∃ y : Int32, y = i + 1 := ⟨_, rfl⟩
          refine lv_iinc (v := i_11) (lv' := [(1, .int i_11), (0, .ref m0)]) hx hb dX5_keep_312 hl (k := 1) rfl (by rw [e_i_11]; rfl) (by decide) rfl (fun ls hl => ?_)
          refine lv_goto (tgt := 266) hx hb dX5_keep_315 (by decide) ?_
          exact ih i_11 g_9 g_10 _ _ _ ⟨lv_sub hl [1, 0] rfl, hP, hD, hS, by rw [e_i_11, i_p1 (by omega) (by omega)]; omega, by rw [e_g_9]; exact up_all (P := fun x => 0 ≤ x.toInt ∧ x.toInt ≤ ms.toInt) hP9 (hpf _)⟩ (by rw [e_i_11, i_p1 (by omega) (by omega)]; omega)
      · have hdx : vp_in (mds ma.toNatClampNeg) 30 := ix_r (i_n0 c_222) hdi
        refine lv_aload_n hx hb dX5_keep_225 rfl (lv_at hl 0 rfl) ?_
        refine va_get (D := (dC, dI)) (ci := 6) (v := .ref m19) (C := RX5) (T := TX5) (N := 27) hx hb hts (by decide +kernel) hown hK hP 0 rfl rfl 26 (by decide) (hts (.fieldLink RX5 66 "CobolDebuggerModel" "keptBytes" "[B") (by decide +kernel)) (fun _ h9 => h9) rfl dX5_keep_226 ?_
        refine lv_bipush (v := 9) hx hb dX5_keep_229 (by decide) ?_
        refine lv_aload_n hx hb dX5_keep_231 rfl (lv_at hl 0 rfl) ?_
        refine va_get (D := (dC, dI)) (ci := 6) (v := .int mk) (C := RX5) (T := TX5) (N := 27) hx hb hts (by decide +kernel) hown hK hP 0 rfl rfl 6 (by decide) (hts (.fieldLink RX5 113 "CobolDebuggerModel" "kept" "I") (by decide +kernel)) (fun _ h9 => h9) rfl dX5_keep_232 ?_
        refine lv_imul hx hb dX5_keep_235 ?_
        refine lv_iload_n hx hb dX5_keep_236 rfl (lv_at hl 1 rfl) ?_
        refine lv_iadd hx hb dX5_keep_237 ?_
        refine lv_aload_n hx hb dX5_keep_238 rfl (lv_at hl 0 rfl) ?_
        refine va_get (D := (dC, dI)) (ci := 6) (v := .ref m7) (C := RX5) (T := TX5) (N := 27) hx hb hts (by decide +kernel) hown hK hP 0 rfl rfl 14 (by decide) (hts (.fieldLink RX5 29 "CobolDebuggerModel" "bytes" "[B") (by decide +kernel)) (fun _ h9 => h9) rfl dX5_keep_239 ?_
        refine lv_bipush (v := 9) hx hb dX5_keep_242 (by decide) ?_
        refine lv_aload_n hx hb dX5_keep_244 rfl (lv_at hl 0 rfl) ?_
        refine va_get (D := (dC, dI)) (ci := 6) (v := .ref m3) (C := RX5) (T := TX5) (N := 27) hx hb hts (by decide +kernel) hown hK hP 0 rfl rfl 10 (by decide) (hts (.fieldLink RX5 16 "CobolDebuggerModel" "does" "[I") (by decide +kernel)) (fun _ h9 => h9) rfl dX5_keep_245 ?_
        refine lv_aload_n hx hb dX5_keep_248 rfl (lv_at hl 0 rfl) ?_
        refine va_get (D := (dC, dI)) (ci := 6) (v := .int ma) (C := RX5) (T := TX5) (N := 27) hx hb hts (by decide +kernel) hown hK hP 0 rfl rfl 4 (by decide) (hts (.fieldLink RX5 79 "CobolDebuggerModel" "at" "I") (by decide +kernel)) (fun _ h9 => h9) rfl dX5_keep_249 ?_
        refine va_iald hx hb hK hP 1 0 rfl rfl (i := ma) hmx dX5_keep_252 ?_
        refine lv_imul hx hb dX5_keep_253 ?_
        refine lv_iload_n hx hb dX5_keep_254 rfl (lv_at hl 1 rfl) ?_
        refine lv_iadd hx hb dX5_keep_255 ?_
        refine va_bald hx hb hK hP 2 1 rfl rfl (i := (9 * (mds ma.toNatClampNeg)) + i) (ix_9m hdx hi0 hlt) dX5_keep_256 ?_
        refine va_bast hx hb hK hP hD hS 10 9 rfl rfl (i := (9 * mk) + i) (ix_row (w := 9) (n := 300) (by decide) hkx hi0 hlt rfl (by decide) (by decide) (by decide)) dX5_keep_257 (fun H locs hP hD hS => ?_)
        have hP : va_P (dC, dI) vwCl [(m0, .inr (6, [.int ce, .int ms, .int mi, .int mt, .int ma, .int mf, .int mk, .int mp, .ref m1, .ref m2, .ref m3, .ref m4, .ref m5, .ref m6, .ref m7, .ref m8, .ref m9, .ref m10, .ref m11, .ref m12, .ref m13, .ref m14, .ref m15, .ref m16, .ref m17, .ref m18, .ref m19])), (m3, .inl (km3, 102, .inl mds)), (m7, .inl (km7, 270, .inl mbs)), (m12, .inl (km12, 20, .inl mpf)), (m13, .inl (km13, 20, .inl men)), (m14, .inl (km14, 300, .inl g_1)), (m15, .inl (km15, 300, .inl g_2)), (m16, .inl (km16, 300, .inl g_3)), (m17, .inl (km17, 6000, .inl mkp)), (m18, .inl (km18, 6000, .inl mke)), (m19, .inl (km19, 2700, .inl (upd by9 ((9 * mk) + i).toNatClampNeg (vp_nar .byte (mbs ((9 * (mds ma.toNatClampNeg)) + i).toNatClampNeg)))))] H := hP
        have hD : va_D A [(m0, .inr (6, [.int ce, .int ms, .int mi, .int mt, .int ma, .int mf, .int mk, .int mp, .ref m1, .ref m2, .ref m3, .ref m4, .ref m5, .ref m6, .ref m7, .ref m8, .ref m9, .ref m10, .ref m11, .ref m12, .ref m13, .ref m14, .ref m15, .ref m16, .ref m17, .ref m18, .ref m19])), (m3, .inl (km3, 102, .inl mds)), (m7, .inl (km7, 270, .inl mbs)), (m12, .inl (km12, 20, .inl mpf)), (m13, .inl (km13, 20, .inl men)), (m14, .inl (km14, 300, .inl g_1)), (m15, .inl (km15, 300, .inl g_2)), (m16, .inl (km16, 300, .inl g_3)), (m17, .inl (km17, 6000, .inl mkp)), (m18, .inl (km18, 6000, .inl mke)), (m19, .inl (km19, 2700, .inl (upd by9 ((9 * mk) + i).toNatClampNeg (vp_nar .byte (mbs ((9 * (mds ma.toNatClampNeg)) + i).toNatClampNeg)))))] := hD
        obtain ⟨g_12, e_g_12⟩ : ∃ y, y = upd by9 ((9 * mk) + i).toNatClampNeg (vp_nar .byte (mbs ((9 * (mds ma.toNatClampNeg)) + i).toNatClampNeg)) := ⟨_, rfl⟩
        rw [← e_g_12] at hP hD
        obtain ⟨i_13, e_i_13⟩ : ∃ y : Int32, y = i + 1 := ⟨_, rfl⟩
        refine lv_iinc (v := i_13) (lv' := [(1, .int i_13), (0, .ref m0)]) hx hb dX5_keep_258 hl (k := 1) rfl (by rw [e_i_13]; rfl) (by decide) rfl (fun ls hl => ?_)
        refine lv_goto (tgt := 207) hx hb dX5_keep_261 (by decide) ?_
        exact ih i_13 g_12 _ _ _ ⟨lv_sub hl [1, 0] rfl, hP, hD, hS, by rw [e_i_13, i_p1 (by omega) (by omega)]; omega⟩ (by rw [e_i_13, i_p1 (by omega) (by omega)]; omega)
  · refine lv_aload_n hx hb dX5_keep_10 rfl (lv_at hl 0 rfl) ?_
    refine lv_dup hx hb dX5_keep_11 rfl ?_
    refine va_get (D := (dC, dI)) (ci := 6) (v := .int mk) (C := RX5) (T := TX5) (N := 27) hx hb hts (by decide +kernel) hown hK hP 0 rfl rfl 6 (by decide) (hts (.fieldLink RX5 113 "CobolDebuggerModel" "kept" "I") (by decide +kernel)) (fun _ h9 => h9) rfl dX5_keep_12 ?_
    refine lv_iconst (v := 1) hx hb dX5_keep_15 (by decide) ?_
    refine lv_isub hx hb dX5_keep_16 ?_
    refine lv_topi (fun v_14 e_v_14 => ?_)
    refine va_put (D := (dC, dI)) (ci := 6) (v := .int v_14) (ty := .int) (C := RX5) (T := TX5) (N := 27) hx hb hts (by decide +kernel) tyX5 tyX5_ok nmX5 hown hK hP hD hS 0 rfl rfl 6 (by decide) (hts (.fieldLink RX5 113 "CobolDebuggerModel" "kept" "I") (by decide +kernel)) (fun _ h9 => h9) rfl (by decide +kernel) rfl rfl (Nat.le_of_ble_eq_true rfl) dX5_keep_17 (fun H locs hP hD hS => ?_)
    have hP : va_P (dC, dI) vwCl [(m0, .inr (6, [.int ce, .int ms, .int mi, .int mt, .int ma, .int mf, .int v_14, .int mp, .ref m1, .ref m2, .ref m3, .ref m4, .ref m5, .ref m6, .ref m7, .ref m8, .ref m9, .ref m10, .ref m11, .ref m12, .ref m13, .ref m14, .ref m15, .ref m16, .ref m17, .ref m18, .ref m19])), (m3, .inl (km3, 102, .inl mds)), (m7, .inl (km7, 270, .inl mbs)), (m12, .inl (km12, 20, .inl mpf)), (m13, .inl (km13, 20, .inl men)), (m14, .inl (km14, 300, .inl mka)), (m15, .inl (km15, 300, .inl mki)), (m16, .inl (km16, 300, .inl mko)), (m17, .inl (km17, 6000, .inl mkp)), (m18, .inl (km18, 6000, .inl mke)), (m19, .inl (km19, 2700, .inl mkb))] H := hP
    have hD : va_D A [(m0, .inr (6, [.int ce, .int ms, .int mi, .int mt, .int ma, .int mf, .int v_14, .int mp, .ref m1, .ref m2, .ref m3, .ref m4, .ref m5, .ref m6, .ref m7, .ref m8, .ref m9, .ref m10, .ref m11, .ref m12, .ref m13, .ref m14, .ref m15, .ref m16, .ref m17, .ref m18, .ref m19])), (m3, .inl (km3, 102, .inl mds)), (m7, .inl (km7, 270, .inl mbs)), (m12, .inl (km12, 20, .inl mpf)), (m13, .inl (km13, 20, .inl men)), (m14, .inl (km14, 300, .inl mka)), (m15, .inl (km15, 300, .inl mki)), (m16, .inl (km16, 300, .inl mko)), (m17, .inl (km17, 6000, .inl mkp)), (m18, .inl (km18, 6000, .inl mke)), (m19, .inl (km19, 2700, .inl mkb))] := hD
    have hv : v_14.toInt = 299 := by rw [e_v_14, c_7]; decide
    have e9 : (9 * v_14).toInt = 2691 := by rw [e_v_14, c_7]; decide
    have e20 : (20 * v_14).toInt = 5980 := by rw [e_v_14, c_7]; decide
    refine lv_iconst (v := 0) hx hb dX5_keep_20 (by decide) ?_
    refine lv_istore_n (lv' := [(1, .int 0), (0, .ref m0)]) hx hb dX5_keep_21 rfl hl (by decide) rfl (fun ls hl => ?_)
    refine wl4 (μ := fun (i : Int32) (ax : Nat → Int32) (ix : Nat → Int32) (ox : Nat → Int32) => (299 - i.toInt).toNat) (I := fun (i : Int32) (ax : Nat → Int32) (ix : Nat → Int32) (ox : Nat → Int32) (ls : Array Slot) (H : Heap) (locs : List Loc) => lv_has ls 2 [(0, .ref m0), (1, .int i)] ∧ va_P (dC, dI) vwCl [(m0, .inr (6, [.int ce, .int ms, .int mi, .int mt, .int ma, .int mf, .int v_14, .int mp, .ref m1, .ref m2, .ref m3, .ref m4, .ref m5, .ref m6, .ref m7, .ref m8, .ref m9, .ref m10, .ref m11, .ref m12, .ref m13, .ref m14, .ref m15, .ref m16, .ref m17, .ref m18, .ref m19])), (m3, .inl (km3, 102, .inl mds)), (m7, .inl (km7, 270, .inl mbs)), (m12, .inl (km12, 20, .inl mpf)), (m13, .inl (km13, 20, .inl men)), (m14, .inl (km14, 300, .inl ax)), (m15, .inl (km15, 300, .inl ix)), (m16, .inl (km16, 300, .inl ox)), (m17, .inl (km17, 6000, .inl mkp)), (m18, .inl (km18, 6000, .inl mke)), (m19, .inl (km19, 2700, .inl mkb))] H ∧ va_D A [(m0, .inr (6, [.int ce, .int ms, .int mi, .int mt, .int ma, .int mf, .int v_14, .int mp, .ref m1, .ref m2, .ref m3, .ref m4, .ref m5, .ref m6, .ref m7, .ref m8, .ref m9, .ref m10, .ref m11, .ref m12, .ref m13, .ref m14, .ref m15, .ref m16, .ref m17, .ref m18, .ref m19])), (m3, .inl (km3, 102, .inl mds)), (m7, .inl (km7, 270, .inl mbs)), (m12, .inl (km12, 20, .inl mpf)), (m13, .inl (km13, 20, .inl men)), (m14, .inl (km14, 300, .inl ax)), (m15, .inl (km15, 300, .inl ix)), (m16, .inl (km16, 300, .inl ox)), (m17, .inl (km17, 6000, .inl mkp)), (m18, .inl (km18, 6000, .inl mke)), (m19, .inl (km19, 2700, .inl mkb))] ∧ va_S A s.heap H locs ∧ (0 ≤ i.toInt) ∧ (∀ j, 0 ≤ (ax j).toInt ∧ (ax j).toInt ≤ ms.toInt) ∧ (∀ j, (ix j).toInt < 30) ∧ (∀ j, 0 ≤ (ox j).toInt ∧ (ox j).toInt ≤ 20)) (fun i ax ix ox ls H locs hI ih => ?_) 0 mka mki mko ls _ _ ⟨lv_sub hl [1, 0] rfl, hP, hD, hS, by decide, hka, hki, hko⟩
    obtain ⟨hl, hP, hD, hS, hi0, hA, hI, hO⟩ := hI
    refine lv_iload_n hx hb dX5_keep_22 rfl (lv_at hl 1 rfl) ?_
    refine lv_aload_n hx hb dX5_keep_23 rfl (lv_at hl 0 rfl) ?_
    refine va_get (D := (dC, dI)) (ci := 6) (v := .int v_14) (C := RX5) (T := TX5) (N := 27) hx hb hts (by decide +kernel) hown hK hP 0 rfl rfl 6 (by decide) (hts (.fieldLink RX5 113 "CobolDebuggerModel" "kept" "I") (by decide +kernel)) (fun _ h9 => h9) rfl dX5_keep_24 ?_
    refine lv_icmp_ge (tgt := 78) hx hb dX5_keep_27 (by decide) (fun c_27 => ?_) (fun c_27 => ?_)
    · refine lv_iconst (v := 0) hx hb dX5_keep_78 (by decide) ?_
      refine lv_istore_n (lv' := [(1, .int 0), (0, .ref m0)]) hx hb dX5_keep_79 rfl hl (by decide) rfl (fun ls hl => ?_)
      refine wl2 (μ := fun (i : Int32) (bx : Nat → Int32) => (2691 - i.toInt).toNat) (I := fun (i : Int32) (bx : Nat → Int32) (ls : Array Slot) (H : Heap) (locs : List Loc) => lv_has ls 2 [(0, .ref m0), (1, .int i)] ∧ va_P (dC, dI) vwCl [(m0, .inr (6, [.int ce, .int ms, .int mi, .int mt, .int ma, .int mf, .int v_14, .int mp, .ref m1, .ref m2, .ref m3, .ref m4, .ref m5, .ref m6, .ref m7, .ref m8, .ref m9, .ref m10, .ref m11, .ref m12, .ref m13, .ref m14, .ref m15, .ref m16, .ref m17, .ref m18, .ref m19])), (m3, .inl (km3, 102, .inl mds)), (m7, .inl (km7, 270, .inl mbs)), (m12, .inl (km12, 20, .inl mpf)), (m13, .inl (km13, 20, .inl men)), (m14, .inl (km14, 300, .inl ax)), (m15, .inl (km15, 300, .inl ix)), (m16, .inl (km16, 300, .inl ox)), (m17, .inl (km17, 6000, .inl mkp)), (m18, .inl (km18, 6000, .inl mke)), (m19, .inl (km19, 2700, .inl bx))] H ∧ va_D A [(m0, .inr (6, [.int ce, .int ms, .int mi, .int mt, .int ma, .int mf, .int v_14, .int mp, .ref m1, .ref m2, .ref m3, .ref m4, .ref m5, .ref m6, .ref m7, .ref m8, .ref m9, .ref m10, .ref m11, .ref m12, .ref m13, .ref m14, .ref m15, .ref m16, .ref m17, .ref m18, .ref m19])), (m3, .inl (km3, 102, .inl mds)), (m7, .inl (km7, 270, .inl mbs)), (m12, .inl (km12, 20, .inl mpf)), (m13, .inl (km13, 20, .inl men)), (m14, .inl (km14, 300, .inl ax)), (m15, .inl (km15, 300, .inl ix)), (m16, .inl (km16, 300, .inl ox)), (m17, .inl (km17, 6000, .inl mkp)), (m18, .inl (km18, 6000, .inl mke)), (m19, .inl (km19, 2700, .inl bx))] ∧ va_S A s.heap H locs ∧ (0 ≤ i.toInt)) (fun i bx ls H locs hI ih => ?_) 0 mkb ls _ _ ⟨lv_sub hl [1, 0] rfl, hP, hD, hS, by decide⟩
      obtain ⟨hl, hP, hD, hS, hi0⟩ := hI
      refine lv_iload_n hx hb dX5_keep_80 rfl (lv_at hl 1 rfl) ?_
      refine lv_bipush (v := 9) hx hb dX5_keep_81 (by decide) ?_
      refine lv_aload_n hx hb dX5_keep_83 rfl (lv_at hl 0 rfl) ?_
      refine va_get (D := (dC, dI)) (ci := 6) (v := .int v_14) (C := RX5) (T := TX5) (N := 27) hx hb hts (by decide +kernel) hown hK hP 0 rfl rfl 6 (by decide) (hts (.fieldLink RX5 113 "CobolDebuggerModel" "kept" "I") (by decide +kernel)) (fun _ h9 => h9) rfl dX5_keep_84 ?_
      refine lv_imul hx hb dX5_keep_87 ?_
      refine lv_icmp_ge (tgt := 112) hx hb dX5_keep_88 (by decide) (fun c_88 => ?_) (fun c_88 => ?_)
      · refine lv_iconst (v := 0) hx hb dX5_keep_112 (by decide) ?_
        refine lv_istore_n (lv' := [(1, .int 0), (0, .ref m0)]) hx hb dX5_keep_113 rfl hl (by decide) rfl (fun ls hl => ?_)
        refine wl3 (μ := fun (i : Int32) (px : Nat → Int32) (ex : Nat → Int32) => (5980 - i.toInt).toNat) (I := fun (i : Int32) (px : Nat → Int32) (ex : Nat → Int32) (ls : Array Slot) (H : Heap) (locs : List Loc) => lv_has ls 2 [(0, .ref m0), (1, .int i)] ∧ va_P (dC, dI) vwCl [(m0, .inr (6, [.int ce, .int ms, .int mi, .int mt, .int ma, .int mf, .int v_14, .int mp, .ref m1, .ref m2, .ref m3, .ref m4, .ref m5, .ref m6, .ref m7, .ref m8, .ref m9, .ref m10, .ref m11, .ref m12, .ref m13, .ref m14, .ref m15, .ref m16, .ref m17, .ref m18, .ref m19])), (m3, .inl (km3, 102, .inl mds)), (m7, .inl (km7, 270, .inl mbs)), (m12, .inl (km12, 20, .inl mpf)), (m13, .inl (km13, 20, .inl men)), (m14, .inl (km14, 300, .inl ax)), (m15, .inl (km15, 300, .inl ix)), (m16, .inl (km16, 300, .inl ox)), (m17, .inl (km17, 6000, .inl px)), (m18, .inl (km18, 6000, .inl ex)), (m19, .inl (km19, 2700, .inl bx))] H ∧ va_D A [(m0, .inr (6, [.int ce, .int ms, .int mi, .int mt, .int ma, .int mf, .int v_14, .int mp, .ref m1, .ref m2, .ref m3, .ref m4, .ref m5, .ref m6, .ref m7, .ref m8, .ref m9, .ref m10, .ref m11, .ref m12, .ref m13, .ref m14, .ref m15, .ref m16, .ref m17, .ref m18, .ref m19])), (m3, .inl (km3, 102, .inl mds)), (m7, .inl (km7, 270, .inl mbs)), (m12, .inl (km12, 20, .inl mpf)), (m13, .inl (km13, 20, .inl men)), (m14, .inl (km14, 300, .inl ax)), (m15, .inl (km15, 300, .inl ix)), (m16, .inl (km16, 300, .inl ox)), (m17, .inl (km17, 6000, .inl px)), (m18, .inl (km18, 6000, .inl ex)), (m19, .inl (km19, 2700, .inl bx))] ∧ va_S A s.heap H locs ∧ (0 ≤ i.toInt) ∧ (∀ j, 0 ≤ (px j).toInt ∧ (px j).toInt ≤ ms.toInt)) (fun i px ex ls H locs hI ih => ?_) 0 mkp mke ls _ _ ⟨lv_sub hl [1, 0] rfl, hP, hD, hS, by decide, hkp⟩
        obtain ⟨hl, hP, hD, hS, hi0, hPx⟩ := hI
        refine lv_iload_n hx hb dX5_keep_114 rfl (lv_at hl 1 rfl) ?_
        refine lv_bipush (v := 20) hx hb dX5_keep_115 (by decide) ?_
        refine lv_aload_n hx hb dX5_keep_117 rfl (lv_at hl 0 rfl) ?_
        refine va_get (D := (dC, dI)) (ci := 6) (v := .int v_14) (C := RX5) (T := TX5) (N := 27) hx hb hts (by decide +kernel) hown hK hP 0 rfl rfl 6 (by decide) (hts (.fieldLink RX5 113 "CobolDebuggerModel" "kept" "I") (by decide +kernel)) (fun _ h9 => h9) rfl dX5_keep_118 ?_
        refine lv_imul hx hb dX5_keep_121 ?_
        refine lv_icmp_ge (tgt := 161) hx hb dX5_keep_122 (by decide) (fun c_122 => ?_) (fun c_122 => ?_)
        · have hmk : 0 ≤ v_14.toInt ∧ v_14.toInt < 300 := ⟨by omega, by omega⟩
          have hkx : vp_in v_14 300 := ix_r hmk.1 hmk.2
          have hA9 : ∀ j, 0 ≤ (ax j).toInt ∧ (ax j).toInt ≤ ms.toInt := hA
          have hI9 : ∀ j, (ix j).toInt < 30 := hI
          have hO9 : ∀ j, 0 ≤ (ox j).toInt ∧ (ox j).toInt ≤ 20 := hO
          refine lv_aload_n hx hb dX5_keep_161 rfl (lv_at hl 0 rfl) ?_
          refine va_get (D := (dC, dI)) (ci := 6) (v := .ref m14) (C := RX5) (T := TX5) (N := 27) hx hb hts (by decide +kernel) hown hK hP 0 rfl rfl 21 (by decide) (hts (.fieldLink RX5 51 "CobolDebuggerModel" "keptAt" "[I") (by decide +kernel)) (fun _ h9 => h9) rfl dX5_keep_162 ?_
          refine lv_aload_n hx hb dX5_keep_165 rfl (lv_at hl 0 rfl) ?_
          refine va_get (D := (dC, dI)) (ci := 6) (v := .int v_14) (C := RX5) (T := TX5) (N := 27) hx hb hts (by decide +kernel) hown hK hP 0 rfl rfl 6 (by decide) (hts (.fieldLink RX5 113 "CobolDebuggerModel" "kept" "I") (by decide +kernel)) (fun _ h9 => h9) rfl dX5_keep_166 ?_
          refine lv_aload_n hx hb dX5_keep_169 rfl (lv_at hl 0 rfl) ?_
          refine va_get (D := (dC, dI)) (ci := 6) (v := .int ma) (C := RX5) (T := TX5) (N := 27) hx hb hts (by decide +kernel) hown hK hP 0 rfl rfl 4 (by decide) (hts (.fieldLink RX5 79 "CobolDebuggerModel" "at" "I") (by decide +kernel)) (fun _ h9 => h9) rfl dX5_keep_170 ?_
          refine va_iast hx hb hK hP hD hS 5 4 rfl rfl (i := v_14) hkx dX5_keep_173 (fun H locs hP hD hS => ?_)
          have hP : va_P (dC, dI) vwCl [(m0, .inr (6, [.int ce, .int ms, .int mi, .int mt, .int ma, .int mf, .int v_14, .int mp, .ref m1, .ref m2, .ref m3, .ref m4, .ref m5, .ref m6, .ref m7, .ref m8, .ref m9, .ref m10, .ref m11, .ref m12, .ref m13, .ref m14, .ref m15, .ref m16, .ref m17, .ref m18, .ref m19])), (m3, .inl (km3, 102, .inl mds)), (m7, .inl (km7, 270, .inl mbs)), (m12, .inl (km12, 20, .inl mpf)), (m13, .inl (km13, 20, .inl men)), (m14, .inl (km14, 300, .inl (upd ax v_14.toNatClampNeg ma))), (m15, .inl (km15, 300, .inl ix)), (m16, .inl (km16, 300, .inl ox)), (m17, .inl (km17, 6000, .inl px)), (m18, .inl (km18, 6000, .inl ex)), (m19, .inl (km19, 2700, .inl bx))] H := hP
          have hD : va_D A [(m0, .inr (6, [.int ce, .int ms, .int mi, .int mt, .int ma, .int mf, .int v_14, .int mp, .ref m1, .ref m2, .ref m3, .ref m4, .ref m5, .ref m6, .ref m7, .ref m8, .ref m9, .ref m10, .ref m11, .ref m12, .ref m13, .ref m14, .ref m15, .ref m16, .ref m17, .ref m18, .ref m19])), (m3, .inl (km3, 102, .inl mds)), (m7, .inl (km7, 270, .inl mbs)), (m12, .inl (km12, 20, .inl mpf)), (m13, .inl (km13, 20, .inl men)), (m14, .inl (km14, 300, .inl (upd ax v_14.toNatClampNeg ma))), (m15, .inl (km15, 300, .inl ix)), (m16, .inl (km16, 300, .inl ox)), (m17, .inl (km17, 6000, .inl px)), (m18, .inl (km18, 6000, .inl ex)), (m19, .inl (km19, 2700, .inl bx))] := hD
          obtain ⟨g_15, e_g_15⟩ : ∃ y, y = upd ax v_14.toNatClampNeg ma := ⟨_, rfl⟩
          rw [← e_g_15] at hP hD
          refine lv_aload_n hx hb dX5_keep_174 rfl (lv_at hl 0 rfl) ?_
          refine va_get (D := (dC, dI)) (ci := 6) (v := .ref m15) (C := RX5) (T := TX5) (N := 27) hx hb hts (by decide +kernel) hown hK hP 0 rfl rfl 22 (by decide) (hts (.fieldLink RX5 54 "CobolDebuggerModel" "keptItems" "[I") (by decide +kernel)) (fun _ h9 => h9) rfl dX5_keep_175 ?_
          refine lv_aload_n hx hb dX5_keep_178 rfl (lv_at hl 0 rfl) ?_
          refine va_get (D := (dC, dI)) (ci := 6) (v := .int v_14) (C := RX5) (T := TX5) (N := 27) hx hb hts (by decide +kernel) hown hK hP 0 rfl rfl 6 (by decide) (hts (.fieldLink RX5 113 "CobolDebuggerModel" "kept" "I") (by decide +kernel)) (fun _ h9 => h9) rfl dX5_keep_179 ?_
          refine lv_aload_n hx hb dX5_keep_182 rfl (lv_at hl 0 rfl) ?_
          refine va_get (D := (dC, dI)) (ci := 6) (v := .ref m3) (C := RX5) (T := TX5) (N := 27) hx hb hts (by decide +kernel) hown hK hP 0 rfl rfl 10 (by decide) (hts (.fieldLink RX5 16 "CobolDebuggerModel" "does" "[I") (by decide +kernel)) (fun _ h9 => h9) rfl dX5_keep_183 ?_
          refine lv_aload_n hx hb dX5_keep_186 rfl (lv_at hl 0 rfl) ?_
          refine va_get (D := (dC, dI)) (ci := 6) (v := .int ma) (C := RX5) (T := TX5) (N := 27) hx hb hts (by decide +kernel) hown hK hP 0 rfl rfl 4 (by decide) (hts (.fieldLink RX5 79 "CobolDebuggerModel" "at" "I") (by decide +kernel)) (fun _ h9 => h9) rfl dX5_keep_187 ?_
          refine va_iald hx hb hK hP 1 0 rfl rfl (i := ma) hmx dX5_keep_190 ?_
          refine va_iast hx hb hK hP hD hS 6 5 rfl rfl (i := v_14) hkx dX5_keep_191 (fun H locs hP hD hS => ?_)
          have hP : va_P (dC, dI) vwCl [(m0, .inr (6, [.int ce, .int ms, .int mi, .int mt, .int ma, .int mf, .int v_14, .int mp, .ref m1, .ref m2, .ref m3, .ref m4, .ref m5, .ref m6, .ref m7, .ref m8, .ref m9, .ref m10, .ref m11, .ref m12, .ref m13, .ref m14, .ref m15, .ref m16, .ref m17, .ref m18, .ref m19])), (m3, .inl (km3, 102, .inl mds)), (m7, .inl (km7, 270, .inl mbs)), (m12, .inl (km12, 20, .inl mpf)), (m13, .inl (km13, 20, .inl men)), (m14, .inl (km14, 300, .inl g_15)), (m15, .inl (km15, 300, .inl (upd ix v_14.toNatClampNeg (mds ma.toNatClampNeg)))), (m16, .inl (km16, 300, .inl ox)), (m17, .inl (km17, 6000, .inl px)), (m18, .inl (km18, 6000, .inl ex)), (m19, .inl (km19, 2700, .inl bx))] H := hP
          have hD : va_D A [(m0, .inr (6, [.int ce, .int ms, .int mi, .int mt, .int ma, .int mf, .int v_14, .int mp, .ref m1, .ref m2, .ref m3, .ref m4, .ref m5, .ref m6, .ref m7, .ref m8, .ref m9, .ref m10, .ref m11, .ref m12, .ref m13, .ref m14, .ref m15, .ref m16, .ref m17, .ref m18, .ref m19])), (m3, .inl (km3, 102, .inl mds)), (m7, .inl (km7, 270, .inl mbs)), (m12, .inl (km12, 20, .inl mpf)), (m13, .inl (km13, 20, .inl men)), (m14, .inl (km14, 300, .inl g_15)), (m15, .inl (km15, 300, .inl (upd ix v_14.toNatClampNeg (mds ma.toNatClampNeg)))), (m16, .inl (km16, 300, .inl ox)), (m17, .inl (km17, 6000, .inl px)), (m18, .inl (km18, 6000, .inl ex)), (m19, .inl (km19, 2700, .inl bx))] := hD
          obtain ⟨g_16, e_g_16⟩ : ∃ y, y = upd ix v_14.toNatClampNeg (mds ma.toNatClampNeg) := ⟨_, rfl⟩
          rw [← e_g_16] at hP hD
          refine lv_aload_n hx hb dX5_keep_192 rfl (lv_at hl 0 rfl) ?_
          refine va_get (D := (dC, dI)) (ci := 6) (v := .ref m16) (C := RX5) (T := TX5) (N := 27) hx hb hts (by decide +kernel) hown hK hP 0 rfl rfl 23 (by decide) (hts (.fieldLink RX5 57 "CobolDebuggerModel" "keptOpen" "[I") (by decide +kernel)) (fun _ h9 => h9) rfl dX5_keep_193 ?_
          refine lv_aload_n hx hb dX5_keep_196 rfl (lv_at hl 0 rfl) ?_
          refine va_get (D := (dC, dI)) (ci := 6) (v := .int v_14) (C := RX5) (T := TX5) (N := 27) hx hb hts (by decide +kernel) hown hK hP 0 rfl rfl 6 (by decide) (hts (.fieldLink RX5 113 "CobolDebuggerModel" "kept" "I") (by decide +kernel)) (fun _ h9 => h9) rfl dX5_keep_197 ?_
          refine lv_aload_n hx hb dX5_keep_200 rfl (lv_at hl 0 rfl) ?_
          refine va_get (D := (dC, dI)) (ci := 6) (v := .int mp) (C := RX5) (T := TX5) (N := 27) hx hb hts (by decide +kernel) hown hK hP 0 rfl rfl 7 (by decide) (hts (.fieldLink RX5 116 "CobolDebuggerModel" "open" "I") (by decide +kernel)) (fun _ h9 => h9) rfl dX5_keep_201 ?_
          refine va_iast hx hb hK hP hD hS 7 6 rfl rfl (i := v_14) hkx dX5_keep_204 (fun H locs hP hD hS => ?_)
          have hP : va_P (dC, dI) vwCl [(m0, .inr (6, [.int ce, .int ms, .int mi, .int mt, .int ma, .int mf, .int v_14, .int mp, .ref m1, .ref m2, .ref m3, .ref m4, .ref m5, .ref m6, .ref m7, .ref m8, .ref m9, .ref m10, .ref m11, .ref m12, .ref m13, .ref m14, .ref m15, .ref m16, .ref m17, .ref m18, .ref m19])), (m3, .inl (km3, 102, .inl mds)), (m7, .inl (km7, 270, .inl mbs)), (m12, .inl (km12, 20, .inl mpf)), (m13, .inl (km13, 20, .inl men)), (m14, .inl (km14, 300, .inl g_15)), (m15, .inl (km15, 300, .inl g_16)), (m16, .inl (km16, 300, .inl (upd ox v_14.toNatClampNeg mp))), (m17, .inl (km17, 6000, .inl px)), (m18, .inl (km18, 6000, .inl ex)), (m19, .inl (km19, 2700, .inl bx))] H := hP
          have hD : va_D A [(m0, .inr (6, [.int ce, .int ms, .int mi, .int mt, .int ma, .int mf, .int v_14, .int mp, .ref m1, .ref m2, .ref m3, .ref m4, .ref m5, .ref m6, .ref m7, .ref m8, .ref m9, .ref m10, .ref m11, .ref m12, .ref m13, .ref m14, .ref m15, .ref m16, .ref m17, .ref m18, .ref m19])), (m3, .inl (km3, 102, .inl mds)), (m7, .inl (km7, 270, .inl mbs)), (m12, .inl (km12, 20, .inl mpf)), (m13, .inl (km13, 20, .inl men)), (m14, .inl (km14, 300, .inl g_15)), (m15, .inl (km15, 300, .inl g_16)), (m16, .inl (km16, 300, .inl (upd ox v_14.toNatClampNeg mp))), (m17, .inl (km17, 6000, .inl px)), (m18, .inl (km18, 6000, .inl ex)), (m19, .inl (km19, 2700, .inl bx))] := hD
          obtain ⟨g_17, e_g_17⟩ : ∃ y, y = upd ox v_14.toNatClampNeg mp := ⟨_, rfl⟩
          rw [← e_g_17] at hP hD
          refine lv_iconst (v := 0) hx hb dX5_keep_205 (by decide) ?_
          refine lv_istore_n (lv' := [(1, .int 0), (0, .ref m0)]) hx hb dX5_keep_206 rfl hl (by decide) rfl (fun ls hl => ?_)
          refine wl2 (μ := fun (i : Int32) (by9 : Nat → Int32) => (9 - i.toInt).toNat) (I := fun (i : Int32) (by9 : Nat → Int32) (ls : Array Slot) (H : Heap) (locs : List Loc) => lv_has ls 2 [(0, .ref m0), (1, .int i)] ∧ va_P (dC, dI) vwCl [(m0, .inr (6, [.int ce, .int ms, .int mi, .int mt, .int ma, .int mf, .int v_14, .int mp, .ref m1, .ref m2, .ref m3, .ref m4, .ref m5, .ref m6, .ref m7, .ref m8, .ref m9, .ref m10, .ref m11, .ref m12, .ref m13, .ref m14, .ref m15, .ref m16, .ref m17, .ref m18, .ref m19])), (m3, .inl (km3, 102, .inl mds)), (m7, .inl (km7, 270, .inl mbs)), (m12, .inl (km12, 20, .inl mpf)), (m13, .inl (km13, 20, .inl men)), (m14, .inl (km14, 300, .inl g_15)), (m15, .inl (km15, 300, .inl g_16)), (m16, .inl (km16, 300, .inl g_17)), (m17, .inl (km17, 6000, .inl px)), (m18, .inl (km18, 6000, .inl ex)), (m19, .inl (km19, 2700, .inl by9))] H ∧ va_D A [(m0, .inr (6, [.int ce, .int ms, .int mi, .int mt, .int ma, .int mf, .int v_14, .int mp, .ref m1, .ref m2, .ref m3, .ref m4, .ref m5, .ref m6, .ref m7, .ref m8, .ref m9, .ref m10, .ref m11, .ref m12, .ref m13, .ref m14, .ref m15, .ref m16, .ref m17, .ref m18, .ref m19])), (m3, .inl (km3, 102, .inl mds)), (m7, .inl (km7, 270, .inl mbs)), (m12, .inl (km12, 20, .inl mpf)), (m13, .inl (km13, 20, .inl men)), (m14, .inl (km14, 300, .inl g_15)), (m15, .inl (km15, 300, .inl g_16)), (m16, .inl (km16, 300, .inl g_17)), (m17, .inl (km17, 6000, .inl px)), (m18, .inl (km18, 6000, .inl ex)), (m19, .inl (km19, 2700, .inl by9))] ∧ va_S A s.heap H locs ∧ (0 ≤ i.toInt)) (fun i by9 ls H locs hI ih => ?_) 0 bx ls _ _ ⟨lv_sub hl [1, 0] rfl, hP, hD, hS, by decide⟩
          obtain ⟨hl, hP, hD, hS, hi0⟩ := hI
          refine lv_iload_n hx hb dX5_keep_207 rfl (lv_at hl 1 rfl) ?_
          refine lv_bipush (v := 9) hx hb dX5_keep_208 (by decide) ?_
          refine lv_icmp_ge (tgt := 264) hx hb dX5_keep_210 (by decide) (fun c_210 => ?_) (fun c_210 => ?_)
          · refine lv_iconst (v := 0) hx hb dX5_keep_264 (by decide) ?_
            refine lv_istore_n (lv' := [(1, .int 0), (0, .ref m0)]) hx hb dX5_keep_265 rfl hl (by decide) rfl (fun ls hl => ?_)
            refine wl3 (μ := fun (i : Int32) (py : Nat → Int32) (ey : Nat → Int32) => (20 - i.toInt).toNat) (I := fun (i : Int32) (py : Nat → Int32) (ey : Nat → Int32) (ls : Array Slot) (H : Heap) (locs : List Loc) => lv_has ls 2 [(0, .ref m0), (1, .int i)] ∧ va_P (dC, dI) vwCl [(m0, .inr (6, [.int ce, .int ms, .int mi, .int mt, .int ma, .int mf, .int v_14, .int mp, .ref m1, .ref m2, .ref m3, .ref m4, .ref m5, .ref m6, .ref m7, .ref m8, .ref m9, .ref m10, .ref m11, .ref m12, .ref m13, .ref m14, .ref m15, .ref m16, .ref m17, .ref m18, .ref m19])), (m3, .inl (km3, 102, .inl mds)), (m7, .inl (km7, 270, .inl mbs)), (m12, .inl (km12, 20, .inl mpf)), (m13, .inl (km13, 20, .inl men)), (m14, .inl (km14, 300, .inl g_15)), (m15, .inl (km15, 300, .inl g_16)), (m16, .inl (km16, 300, .inl g_17)), (m17, .inl (km17, 6000, .inl py)), (m18, .inl (km18, 6000, .inl ey)), (m19, .inl (km19, 2700, .inl by9))] H ∧ va_D A [(m0, .inr (6, [.int ce, .int ms, .int mi, .int mt, .int ma, .int mf, .int v_14, .int mp, .ref m1, .ref m2, .ref m3, .ref m4, .ref m5, .ref m6, .ref m7, .ref m8, .ref m9, .ref m10, .ref m11, .ref m12, .ref m13, .ref m14, .ref m15, .ref m16, .ref m17, .ref m18, .ref m19])), (m3, .inl (km3, 102, .inl mds)), (m7, .inl (km7, 270, .inl mbs)), (m12, .inl (km12, 20, .inl mpf)), (m13, .inl (km13, 20, .inl men)), (m14, .inl (km14, 300, .inl g_15)), (m15, .inl (km15, 300, .inl g_16)), (m16, .inl (km16, 300, .inl g_17)), (m17, .inl (km17, 6000, .inl py)), (m18, .inl (km18, 6000, .inl ey)), (m19, .inl (km19, 2700, .inl by9))] ∧ va_S A s.heap H locs ∧ (0 ≤ i.toInt) ∧ (∀ j, 0 ≤ (py j).toInt ∧ (py j).toInt ≤ ms.toInt)) (fun i py ey ls H locs hI ih => ?_) 0 px ex ls _ _ ⟨lv_sub hl [1, 0] rfl, hP, hD, hS, by decide, hPx⟩
            obtain ⟨hl, hP, hD, hS, hi0, hP9⟩ := hI
            refine lv_iload_n hx hb dX5_keep_266 rfl (lv_at hl 1 rfl) ?_
            refine lv_bipush (v := 20) hx hb dX5_keep_267 (by decide) ?_
            refine lv_icmp_ge (tgt := 318) hx hb dX5_keep_269 (by decide) (fun c_269 => ?_) (fun c_269 => ?_)
            · refine lv_aload_n hx hb dX5_keep_318 rfl (lv_at hl 0 rfl) ?_
              refine lv_dup hx hb dX5_keep_319 rfl ?_
              refine va_get (D := (dC, dI)) (ci := 6) (v := .int v_14) (C := RX5) (T := TX5) (N := 27) hx hb hts (by decide +kernel) hown hK hP 0 rfl rfl 6 (by decide) (hts (.fieldLink RX5 113 "CobolDebuggerModel" "kept" "I") (by decide +kernel)) (fun _ h9 => h9) rfl dX5_keep_320 ?_
              refine lv_iconst (v := 1) hx hb dX5_keep_323 (by decide) ?_
              refine lv_iadd hx hb dX5_keep_324 ?_
              refine lv_topi (fun v_18 e_v_18 => ?_)
              refine va_put (D := (dC, dI)) (ci := 6) (v := .int v_18) (ty := .int) (C := RX5) (T := TX5) (N := 27) hx hb hts (by decide +kernel) tyX5 tyX5_ok nmX5 hown hK hP hD hS 0 rfl rfl 6 (by decide) (hts (.fieldLink RX5 113 "CobolDebuggerModel" "kept" "I") (by decide +kernel)) (fun _ h9 => h9) rfl (by decide +kernel) rfl rfl (Nat.le_of_ble_eq_true rfl) dX5_keep_325 (fun H locs hP hD hS => ?_)
              have hP : va_P (dC, dI) vwCl [(m0, .inr (6, [.int ce, .int ms, .int mi, .int mt, .int ma, .int mf, .int v_18, .int mp, .ref m1, .ref m2, .ref m3, .ref m4, .ref m5, .ref m6, .ref m7, .ref m8, .ref m9, .ref m10, .ref m11, .ref m12, .ref m13, .ref m14, .ref m15, .ref m16, .ref m17, .ref m18, .ref m19])), (m3, .inl (km3, 102, .inl mds)), (m7, .inl (km7, 270, .inl mbs)), (m12, .inl (km12, 20, .inl mpf)), (m13, .inl (km13, 20, .inl men)), (m14, .inl (km14, 300, .inl g_15)), (m15, .inl (km15, 300, .inl g_16)), (m16, .inl (km16, 300, .inl g_17)), (m17, .inl (km17, 6000, .inl py)), (m18, .inl (km18, 6000, .inl ey)), (m19, .inl (km19, 2700, .inl by9))] H := hP
              have hD : va_D A [(m0, .inr (6, [.int ce, .int ms, .int mi, .int mt, .int ma, .int mf, .int v_18, .int mp, .ref m1, .ref m2, .ref m3, .ref m4, .ref m5, .ref m6, .ref m7, .ref m8, .ref m9, .ref m10, .ref m11, .ref m12, .ref m13, .ref m14, .ref m15, .ref m16, .ref m17, .ref m18, .ref m19])), (m3, .inl (km3, 102, .inl mds)), (m7, .inl (km7, 270, .inl mbs)), (m12, .inl (km12, 20, .inl mpf)), (m13, .inl (km13, 20, .inl men)), (m14, .inl (km14, 300, .inl g_15)), (m15, .inl (km15, 300, .inl g_16)), (m16, .inl (km16, 300, .inl g_17)), (m17, .inl (km17, 6000, .inl py)), (m18, .inl (km18, 6000, .inl ey)), (m19, .inl (km19, 2700, .inl by9))] := hD
              exact W.vret hx hb hr (fun t ht hW => ⟨⟨(v_18, g_15, g_16, g_17, py, ey, by9), rfl, ⟨by rw [e_v_18, i_p1 (by omega) (by omega)]; omega, by rw [e_v_18, i_p1 (by omega) (by omega)]; omega, by rw [e_g_15]; exact up_all (P := fun x => 0 ≤ x.toInt ∧ x.toInt ≤ ms.toInt) hA9 hma, by rw [e_g_16]; exact up_all (P := fun x => x.toInt < 30) hI9 hdi, by rw [e_g_17]; exact up_all (P := fun x => 0 ≤ x.toInt ∧ x.toInt ≤ 20) hO9 ⟨hp0, hp1⟩, hP9⟩, by rw [ht]; exact hP, hD⟩, hS.F ht⟩) hS.2.2 dX5_keep_328
            · have hlt : i.toInt < 20 := n_lt c_269
              refine lv_aload_n hx hb dX5_keep_272 rfl (lv_at hl 0 rfl) ?_
              refine va_get (D := (dC, dI)) (ci := 6) (v := .ref m17) (C := RX5) (T := TX5) (N := 27) hx hb hts (by decide +kernel) hown hK hP 0 rfl rfl 24 (by decide) (hts (.fieldLink RX5 60 "CobolDebuggerModel" "keptPerformed" "[I") (by decide +kernel)) (fun _ h9 => h9) rfl dX5_keep_273 ?_
              refine lv_bipush (v := 20) hx hb dX5_keep_276 (by decide) ?_
              refine lv_aload_n hx hb dX5_keep_278 rfl (lv_at hl 0 rfl) ?_
              refine va_get (D := (dC, dI)) (ci := 6) (v := .int v_14) (C := RX5) (T := TX5) (N := 27) hx hb hts (by decide +kernel) hown hK hP 0 rfl rfl 6 (by decide) (hts (.fieldLink RX5 113 "CobolDebuggerModel" "kept" "I") (by decide +kernel)) (fun _ h9 => h9) rfl dX5_keep_279 ?_
              refine lv_imul hx hb dX5_keep_282 ?_
              refine lv_iload_n hx hb dX5_keep_283 rfl (lv_at hl 1 rfl) ?_
              refine lv_iadd hx hb dX5_keep_284 ?_
              refine lv_aload_n hx hb dX5_keep_285 rfl (lv_at hl 0 rfl) ?_
              refine va_get (D := (dC, dI)) (ci := 6) (v := .ref m12) (C := RX5) (T := TX5) (N := 27) hx hb hts (by decide +kernel) hown hK hP 0 rfl rfl 19 (by decide) (hts (.fieldLink RX5 45 "CobolDebuggerModel" "performed" "[I") (by decide +kernel)) (fun _ h9 => h9) rfl dX5_keep_286 ?_
              refine lv_iload_n hx hb dX5_keep_289 rfl (lv_at hl 1 rfl) ?_
              refine va_iald hx hb hK hP 3 2 rfl rfl (i := i) (ix_r hi0 hlt) dX5_keep_290 ?_
              refine va_iast hx hb hK hP hD hS 8 7 rfl rfl (i := (20 * v_14) + i) (ix_row (w := 20) (n := 300) (by decide) hkx hi0 hlt rfl (by decide) (by decide) (by decide)) dX5_keep_291 (fun H locs hP hD hS => ?_)
              have hP : va_P (dC, dI) vwCl [(m0, .inr (6, [.int ce, .int ms, .int mi, .int mt, .int ma, .int mf, .int v_14, .int mp, .ref m1, .ref m2, .ref m3, .ref m4, .ref m5, .ref m6, .ref m7, .ref m8, .ref m9, .ref m10, .ref m11, .ref m12, .ref m13, .ref m14, .ref m15, .ref m16, .ref m17, .ref m18, .ref m19])), (m3, .inl (km3, 102, .inl mds)), (m7, .inl (km7, 270, .inl mbs)), (m12, .inl (km12, 20, .inl mpf)), (m13, .inl (km13, 20, .inl men)), (m14, .inl (km14, 300, .inl g_15)), (m15, .inl (km15, 300, .inl g_16)), (m16, .inl (km16, 300, .inl g_17)), (m17, .inl (km17, 6000, .inl (upd py ((20 * v_14) + i).toNatClampNeg (mpf i.toNatClampNeg)))), (m18, .inl (km18, 6000, .inl ey)), (m19, .inl (km19, 2700, .inl by9))] H := hP
              have hD : va_D A [(m0, .inr (6, [.int ce, .int ms, .int mi, .int mt, .int ma, .int mf, .int v_14, .int mp, .ref m1, .ref m2, .ref m3, .ref m4, .ref m5, .ref m6, .ref m7, .ref m8, .ref m9, .ref m10, .ref m11, .ref m12, .ref m13, .ref m14, .ref m15, .ref m16, .ref m17, .ref m18, .ref m19])), (m3, .inl (km3, 102, .inl mds)), (m7, .inl (km7, 270, .inl mbs)), (m12, .inl (km12, 20, .inl mpf)), (m13, .inl (km13, 20, .inl men)), (m14, .inl (km14, 300, .inl g_15)), (m15, .inl (km15, 300, .inl g_16)), (m16, .inl (km16, 300, .inl g_17)), (m17, .inl (km17, 6000, .inl (upd py ((20 * v_14) + i).toNatClampNeg (mpf i.toNatClampNeg)))), (m18, .inl (km18, 6000, .inl ey)), (m19, .inl (km19, 2700, .inl by9))] := hD
              obtain ⟨g_19, e_g_19⟩ : ∃ y, y = upd py ((20 * v_14) + i).toNatClampNeg (mpf i.toNatClampNeg) := ⟨_, rfl⟩
              rw [← e_g_19] at hP hD
              refine lv_aload_n hx hb dX5_keep_292 rfl (lv_at hl 0 rfl) ?_
              refine va_get (D := (dC, dI)) (ci := 6) (v := .ref m18) (C := RX5) (T := TX5) (N := 27) hx hb hts (by decide +kernel) hown hK hP 0 rfl rfl 25 (by decide) (hts (.fieldLink RX5 63 "CobolDebuggerModel" "keptEnds" "[I") (by decide +kernel)) (fun _ h9 => h9) rfl dX5_keep_293 ?_
              refine lv_bipush (v := 20) hx hb dX5_keep_296 (by decide) ?_
              refine lv_aload_n hx hb dX5_keep_298 rfl (lv_at hl 0 rfl) ?_
              refine va_get (D := (dC, dI)) (ci := 6) (v := .int v_14) (C := RX5) (T := TX5) (N := 27) hx hb hts (by decide +kernel) hown hK hP 0 rfl rfl 6 (by decide) (hts (.fieldLink RX5 113 "CobolDebuggerModel" "kept" "I") (by decide +kernel)) (fun _ h9 => h9) rfl dX5_keep_299 ?_
              refine lv_imul hx hb dX5_keep_302 ?_
              refine lv_iload_n hx hb dX5_keep_303 rfl (lv_at hl 1 rfl) ?_
              refine lv_iadd hx hb dX5_keep_304 ?_
              refine lv_aload_n hx hb dX5_keep_305 rfl (lv_at hl 0 rfl) ?_
              refine va_get (D := (dC, dI)) (ci := 6) (v := .ref m13) (C := RX5) (T := TX5) (N := 27) hx hb hts (by decide +kernel) hown hK hP 0 rfl rfl 20 (by decide) (hts (.fieldLink RX5 48 "CobolDebuggerModel" "ends" "[I") (by decide +kernel)) (fun _ h9 => h9) rfl dX5_keep_306 ?_
              refine lv_iload_n hx hb dX5_keep_309 rfl (lv_at hl 1 rfl) ?_
              refine va_iald hx hb hK hP 4 3 rfl rfl (i := i) (ix_r hi0 hlt) dX5_keep_310 ?_
              refine va_iast hx hb hK hP hD hS 9 8 rfl rfl (i := (20 * v_14) + i) (ix_row (w := 20) (n := 300) (by decide) hkx hi0 hlt rfl (by decide) (by decide) (by decide)) dX5_keep_311 (fun H locs hP hD hS => ?_)
              have hP : va_P (dC, dI) vwCl [(m0, .inr (6, [.int ce, .int ms, .int mi, .int mt, .int ma, .int mf, .int v_14, .int mp, .ref m1, .ref m2, .ref m3, .ref m4, .ref m5, .ref m6, .ref m7, .ref m8, .ref m9, .ref m10, .ref m11, .ref m12, .ref m13, .ref m14, .ref m15, .ref m16, .ref m17, .ref m18, .ref m19])), (m3, .inl (km3, 102, .inl mds)), (m7, .inl (km7, 270, .inl mbs)), (m12, .inl (km12, 20, .inl mpf)), (m13, .inl (km13, 20, .inl men)), (m14, .inl (km14, 300, .inl g_15)), (m15, .inl (km15, 300, .inl g_16)), (m16, .inl (km16, 300, .inl g_17)), (m17, .inl (km17, 6000, .inl g_19)), (m18, .inl (km18, 6000, .inl (upd ey ((20 * v_14) + i).toNatClampNeg (men i.toNatClampNeg)))), (m19, .inl (km19, 2700, .inl by9))] H := hP
              have hD : va_D A [(m0, .inr (6, [.int ce, .int ms, .int mi, .int mt, .int ma, .int mf, .int v_14, .int mp, .ref m1, .ref m2, .ref m3, .ref m4, .ref m5, .ref m6, .ref m7, .ref m8, .ref m9, .ref m10, .ref m11, .ref m12, .ref m13, .ref m14, .ref m15, .ref m16, .ref m17, .ref m18, .ref m19])), (m3, .inl (km3, 102, .inl mds)), (m7, .inl (km7, 270, .inl mbs)), (m12, .inl (km12, 20, .inl mpf)), (m13, .inl (km13, 20, .inl men)), (m14, .inl (km14, 300, .inl g_15)), (m15, .inl (km15, 300, .inl g_16)), (m16, .inl (km16, 300, .inl g_17)), (m17, .inl (km17, 6000, .inl g_19)), (m18, .inl (km18, 6000, .inl (upd ey ((20 * v_14) + i).toNatClampNeg (men i.toNatClampNeg)))), (m19, .inl (km19, 2700, .inl by9))] := hD
              obtain ⟨g_20, e_g_20⟩ : ∃ y, y = upd ey ((20 * v_14) + i).toNatClampNeg (men i.toNatClampNeg) := ⟨_, rfl⟩
              rw [← e_g_20] at hP hD
              obtain ⟨i_21, e_i_21⟩ : ∃ y : Int32, y = i + 1 := ⟨_, rfl⟩
              refine lv_iinc (v := i_21) (lv' := [(1, .int i_21), (0, .ref m0)]) hx hb dX5_keep_312 hl (k := 1) rfl (by rw [e_i_21]; rfl) (by decide) rfl (fun ls hl => ?_)
              refine lv_goto (tgt := 266) hx hb dX5_keep_315 (by decide) ?_
              exact ih i_21 g_19 g_20 _ _ _ ⟨lv_sub hl [1, 0] rfl, hP, hD, hS, by rw [e_i_21, i_p1 (by omega) (by omega)]; omega, by rw [e_g_19]; exact up_all (P := fun x => 0 ≤ x.toInt ∧ x.toInt ≤ ms.toInt) hP9 (hpf _)⟩ (by rw [e_i_21, i_p1 (by omega) (by omega)]; omega)
          · have hlt : i.toInt < 9 := n_lt c_210
            refine lv_aload_n hx hb dX5_keep_213 rfl (lv_at hl 0 rfl) ?_
            refine va_get (D := (dC, dI)) (ci := 6) (v := .ref m3) (C := RX5) (T := TX5) (N := 27) hx hb hts (by decide +kernel) hown hK hP 0 rfl rfl 10 (by decide) (hts (.fieldLink RX5 16 "CobolDebuggerModel" "does" "[I") (by decide +kernel)) (fun _ h9 => h9) rfl dX5_keep_214 ?_
            refine lv_aload_n hx hb dX5_keep_217 rfl (lv_at hl 0 rfl) ?_
            refine va_get (D := (dC, dI)) (ci := 6) (v := .int ma) (C := RX5) (T := TX5) (N := 27) hx hb hts (by decide +kernel) hown hK hP 0 rfl rfl 4 (by decide) (hts (.fieldLink RX5 79 "CobolDebuggerModel" "at" "I") (by decide +kernel)) (fun _ h9 => h9) rfl dX5_keep_218 ?_
            refine va_iald hx hb hK hP 1 0 rfl rfl (i := ma) hmx dX5_keep_221 ?_
            refine lv_if_lt (tgt := 264) hx hb dX5_keep_222 (by decide) (fun c_222 => ?_) (fun c_222 => ?_)
            · refine lv_iconst (v := 0) hx hb dX5_keep_264 (by decide) ?_
              refine lv_istore_n (lv' := [(1, .int 0), (0, .ref m0)]) hx hb dX5_keep_265 rfl hl (by decide) rfl (fun ls hl => ?_)
              refine wl3 (μ := fun (i : Int32) (py : Nat → Int32) (ey : Nat → Int32) => (20 - i.toInt).toNat) (I := fun (i : Int32) (py : Nat → Int32) (ey : Nat → Int32) (ls : Array Slot) (H : Heap) (locs : List Loc) => lv_has ls 2 [(0, .ref m0), (1, .int i)] ∧ va_P (dC, dI) vwCl [(m0, .inr (6, [.int ce, .int ms, .int mi, .int mt, .int ma, .int mf, .int v_14, .int mp, .ref m1, .ref m2, .ref m3, .ref m4, .ref m5, .ref m6, .ref m7, .ref m8, .ref m9, .ref m10, .ref m11, .ref m12, .ref m13, .ref m14, .ref m15, .ref m16, .ref m17, .ref m18, .ref m19])), (m3, .inl (km3, 102, .inl mds)), (m7, .inl (km7, 270, .inl mbs)), (m12, .inl (km12, 20, .inl mpf)), (m13, .inl (km13, 20, .inl men)), (m14, .inl (km14, 300, .inl g_15)), (m15, .inl (km15, 300, .inl g_16)), (m16, .inl (km16, 300, .inl g_17)), (m17, .inl (km17, 6000, .inl py)), (m18, .inl (km18, 6000, .inl ey)), (m19, .inl (km19, 2700, .inl by9))] H ∧ va_D A [(m0, .inr (6, [.int ce, .int ms, .int mi, .int mt, .int ma, .int mf, .int v_14, .int mp, .ref m1, .ref m2, .ref m3, .ref m4, .ref m5, .ref m6, .ref m7, .ref m8, .ref m9, .ref m10, .ref m11, .ref m12, .ref m13, .ref m14, .ref m15, .ref m16, .ref m17, .ref m18, .ref m19])), (m3, .inl (km3, 102, .inl mds)), (m7, .inl (km7, 270, .inl mbs)), (m12, .inl (km12, 20, .inl mpf)), (m13, .inl (km13, 20, .inl men)), (m14, .inl (km14, 300, .inl g_15)), (m15, .inl (km15, 300, .inl g_16)), (m16, .inl (km16, 300, .inl g_17)), (m17, .inl (km17, 6000, .inl py)), (m18, .inl (km18, 6000, .inl ey)), (m19, .inl (km19, 2700, .inl by9))] ∧ va_S A s.heap H locs ∧ (0 ≤ i.toInt) ∧ (∀ j, 0 ≤ (py j).toInt ∧ (py j).toInt ≤ ms.toInt)) (fun i py ey ls H locs hI ih => ?_) 0 px ex ls _ _ ⟨lv_sub hl [1, 0] rfl, hP, hD, hS, by decide, hPx⟩
              obtain ⟨hl, hP, hD, hS, hi0, hP9⟩ := hI
              refine lv_iload_n hx hb dX5_keep_266 rfl (lv_at hl 1 rfl) ?_
              refine lv_bipush (v := 20) hx hb dX5_keep_267 (by decide) ?_
              refine lv_icmp_ge (tgt := 318) hx hb dX5_keep_269 (by decide) (fun c_269 => ?_) (fun c_269 => ?_)
              · refine lv_aload_n hx hb dX5_keep_318 rfl (lv_at hl 0 rfl) ?_
                refine lv_dup hx hb dX5_keep_319 rfl ?_
                refine va_get (D := (dC, dI)) (ci := 6) (v := .int v_14) (C := RX5) (T := TX5) (N := 27) hx hb hts (by decide +kernel) hown hK hP 0 rfl rfl 6 (by decide) (hts (.fieldLink RX5 113 "CobolDebuggerModel" "kept" "I") (by decide +kernel)) (fun _ h9 => h9) rfl dX5_keep_320 ?_
                refine lv_iconst (v := 1) hx hb dX5_keep_323 (by decide) ?_
                refine lv_iadd hx hb dX5_keep_324 ?_
                refine lv_topi (fun v_22 e_v_22 => ?_)
                refine va_put (D := (dC, dI)) (ci := 6) (v := .int v_22) (ty := .int) (C := RX5) (T := TX5) (N := 27) hx hb hts (by decide +kernel) tyX5 tyX5_ok nmX5 hown hK hP hD hS 0 rfl rfl 6 (by decide) (hts (.fieldLink RX5 113 "CobolDebuggerModel" "kept" "I") (by decide +kernel)) (fun _ h9 => h9) rfl (by decide +kernel) rfl rfl (Nat.le_of_ble_eq_true rfl) dX5_keep_325 (fun H locs hP hD hS => ?_)
                have hP : va_P (dC, dI) vwCl [(m0, .inr (6, [.int ce, .int ms, .int mi, .int mt, .int ma, .int mf, .int v_22, .int mp, .ref m1, .ref m2, .ref m3, .ref m4, .ref m5, .ref m6, .ref m7, .ref m8, .ref m9, .ref m10, .ref m11, .ref m12, .ref m13, .ref m14, .ref m15, .ref m16, .ref m17, .ref m18, .ref m19])), (m3, .inl (km3, 102, .inl mds)), (m7, .inl (km7, 270, .inl mbs)), (m12, .inl (km12, 20, .inl mpf)), (m13, .inl (km13, 20, .inl men)), (m14, .inl (km14, 300, .inl g_15)), (m15, .inl (km15, 300, .inl g_16)), (m16, .inl (km16, 300, .inl g_17)), (m17, .inl (km17, 6000, .inl py)), (m18, .inl (km18, 6000, .inl ey)), (m19, .inl (km19, 2700, .inl by9))] H := hP
                have hD : va_D A [(m0, .inr (6, [.int ce, .int ms, .int mi, .int mt, .int ma, .int mf, .int v_22, .int mp, .ref m1, .ref m2, .ref m3, .ref m4, .ref m5, .ref m6, .ref m7, .ref m8, .ref m9, .ref m10, .ref m11, .ref m12, .ref m13, .ref m14, .ref m15, .ref m16, .ref m17, .ref m18, .ref m19])), (m3, .inl (km3, 102, .inl mds)), (m7, .inl (km7, 270, .inl mbs)), (m12, .inl (km12, 20, .inl mpf)), (m13, .inl (km13, 20, .inl men)), (m14, .inl (km14, 300, .inl g_15)), (m15, .inl (km15, 300, .inl g_16)), (m16, .inl (km16, 300, .inl g_17)), (m17, .inl (km17, 6000, .inl py)), (m18, .inl (km18, 6000, .inl ey)), (m19, .inl (km19, 2700, .inl by9))] := hD
                exact W.vret hx hb hr (fun t ht hW => ⟨⟨(v_22, g_15, g_16, g_17, py, ey, by9), rfl, ⟨by rw [e_v_22, i_p1 (by omega) (by omega)]; omega, by rw [e_v_22, i_p1 (by omega) (by omega)]; omega, by rw [e_g_15]; exact up_all (P := fun x => 0 ≤ x.toInt ∧ x.toInt ≤ ms.toInt) hA9 hma, by rw [e_g_16]; exact up_all (P := fun x => x.toInt < 30) hI9 hdi, by rw [e_g_17]; exact up_all (P := fun x => 0 ≤ x.toInt ∧ x.toInt ≤ 20) hO9 ⟨hp0, hp1⟩, hP9⟩, by rw [ht]; exact hP, hD⟩, hS.F ht⟩) hS.2.2 dX5_keep_328
              · have hlt : i.toInt < 20 := n_lt c_269
                refine lv_aload_n hx hb dX5_keep_272 rfl (lv_at hl 0 rfl) ?_
                refine va_get (D := (dC, dI)) (ci := 6) (v := .ref m17) (C := RX5) (T := TX5) (N := 27) hx hb hts (by decide +kernel) hown hK hP 0 rfl rfl 24 (by decide) (hts (.fieldLink RX5 60 "CobolDebuggerModel" "keptPerformed" "[I") (by decide +kernel)) (fun _ h9 => h9) rfl dX5_keep_273 ?_
                refine lv_bipush (v := 20) hx hb dX5_keep_276 (by decide) ?_
                refine lv_aload_n hx hb dX5_keep_278 rfl (lv_at hl 0 rfl) ?_
                refine va_get (D := (dC, dI)) (ci := 6) (v := .int v_14) (C := RX5) (T := TX5) (N := 27) hx hb hts (by decide +kernel) hown hK hP 0 rfl rfl 6 (by decide) (hts (.fieldLink RX5 113 "CobolDebuggerModel" "kept" "I") (by decide +kernel)) (fun _ h9 => h9) rfl dX5_keep_279 ?_
                refine lv_imul hx hb dX5_keep_282 ?_
                refine lv_iload_n hx hb dX5_keep_283 rfl (lv_at hl 1 rfl) ?_
                refine lv_iadd hx hb dX5_keep_284 ?_
                refine lv_aload_n hx hb dX5_keep_285 rfl (lv_at hl 0 rfl) ?_
                refine va_get (D := (dC, dI)) (ci := 6) (v := .ref m12) (C := RX5) (T := TX5) (N := 27) hx hb hts (by decide +kernel) hown hK hP 0 rfl rfl 19 (by decide) (hts (.fieldLink RX5 45 "CobolDebuggerModel" "performed" "[I") (by decide +kernel)) (fun _ h9 => h9) rfl dX5_keep_286 ?_
                refine lv_iload_n hx hb dX5_keep_289 rfl (lv_at hl 1 rfl) ?_
                refine va_iald hx hb hK hP 3 2 rfl rfl (i := i) (ix_r hi0 hlt) dX5_keep_290 ?_
                refine va_iast hx hb hK hP hD hS 8 7 rfl rfl (i := (20 * v_14) + i) (ix_row (w := 20) (n := 300) (by decide) hkx hi0 hlt rfl (by decide) (by decide) (by decide)) dX5_keep_291 (fun H locs hP hD hS => ?_)
                have hP : va_P (dC, dI) vwCl [(m0, .inr (6, [.int ce, .int ms, .int mi, .int mt, .int ma, .int mf, .int v_14, .int mp, .ref m1, .ref m2, .ref m3, .ref m4, .ref m5, .ref m6, .ref m7, .ref m8, .ref m9, .ref m10, .ref m11, .ref m12, .ref m13, .ref m14, .ref m15, .ref m16, .ref m17, .ref m18, .ref m19])), (m3, .inl (km3, 102, .inl mds)), (m7, .inl (km7, 270, .inl mbs)), (m12, .inl (km12, 20, .inl mpf)), (m13, .inl (km13, 20, .inl men)), (m14, .inl (km14, 300, .inl g_15)), (m15, .inl (km15, 300, .inl g_16)), (m16, .inl (km16, 300, .inl g_17)), (m17, .inl (km17, 6000, .inl (upd py ((20 * v_14) + i).toNatClampNeg (mpf i.toNatClampNeg)))), (m18, .inl (km18, 6000, .inl ey)), (m19, .inl (km19, 2700, .inl by9))] H := hP
                have hD : va_D A [(m0, .inr (6, [.int ce, .int ms, .int mi, .int mt, .int ma, .int mf, .int v_14, .int mp, .ref m1, .ref m2, .ref m3, .ref m4, .ref m5, .ref m6, .ref m7, .ref m8, .ref m9, .ref m10, .ref m11, .ref m12, .ref m13, .ref m14, .ref m15, .ref m16, .ref m17, .ref m18, .ref m19])), (m3, .inl (km3, 102, .inl mds)), (m7, .inl (km7, 270, .inl mbs)), (m12, .inl (km12, 20, .inl mpf)), (m13, .inl (km13, 20, .inl men)), (m14, .inl (km14, 300, .inl g_15)), (m15, .inl (km15, 300, .inl g_16)), (m16, .inl (km16, 300, .inl g_17)), (m17, .inl (km17, 6000, .inl (upd py ((20 * v_14) + i).toNatClampNeg (mpf i.toNatClampNeg)))), (m18, .inl (km18, 6000, .inl ey)), (m19, .inl (km19, 2700, .inl by9))] := hD
                obtain ⟨g_23, e_g_23⟩ : ∃ y, y = upd py ((20 * v_14) + i).toNatClampNeg (mpf i.toNatClampNeg) := ⟨_, rfl⟩
                rw [← e_g_23] at hP hD
                refine lv_aload_n hx hb dX5_keep_292 rfl (lv_at hl 0 rfl) ?_
                refine va_get (D := (dC, dI)) (ci := 6) (v := .ref m18) (C := RX5) (T := TX5) (N := 27) hx hb hts (by decide +kernel) hown hK hP 0 rfl rfl 25 (by decide) (hts (.fieldLink RX5 63 "CobolDebuggerModel" "keptEnds" "[I") (by decide +kernel)) (fun _ h9 => h9) rfl dX5_keep_293 ?_
                refine lv_bipush (v := 20) hx hb dX5_keep_296 (by decide) ?_
                refine lv_aload_n hx hb dX5_keep_298 rfl (lv_at hl 0 rfl) ?_
                refine va_get (D := (dC, dI)) (ci := 6) (v := .int v_14) (C := RX5) (T := TX5) (N := 27) hx hb hts (by decide +kernel) hown hK hP 0 rfl rfl 6 (by decide) (hts (.fieldLink RX5 113 "CobolDebuggerModel" "kept" "I") (by decide +kernel)) (fun _ h9 => h9) rfl dX5_keep_299 ?_
                refine lv_imul hx hb dX5_keep_302 ?_
                refine lv_iload_n hx hb dX5_keep_303 rfl (lv_at hl 1 rfl) ?_
                refine lv_iadd hx hb dX5_keep_304 ?_
                refine lv_aload_n hx hb dX5_keep_305 rfl (lv_at hl 0 rfl) ?_
                refine va_get (D := (dC, dI)) (ci := 6) (v := .ref m13) (C := RX5) (T := TX5) (N := 27) hx hb hts (by decide +kernel) hown hK hP 0 rfl rfl 20 (by decide) (hts (.fieldLink RX5 48 "CobolDebuggerModel" "ends" "[I") (by decide +kernel)) (fun _ h9 => h9) rfl dX5_keep_306 ?_
                refine lv_iload_n hx hb dX5_keep_309 rfl (lv_at hl 1 rfl) ?_
                refine va_iald hx hb hK hP 4 3 rfl rfl (i := i) (ix_r hi0 hlt) dX5_keep_310 ?_
                refine va_iast hx hb hK hP hD hS 9 8 rfl rfl (i := (20 * v_14) + i) (ix_row (w := 20) (n := 300) (by decide) hkx hi0 hlt rfl (by decide) (by decide) (by decide)) dX5_keep_311 (fun H locs hP hD hS => ?_)
                have hP : va_P (dC, dI) vwCl [(m0, .inr (6, [.int ce, .int ms, .int mi, .int mt, .int ma, .int mf, .int v_14, .int mp, .ref m1, .ref m2, .ref m3, .ref m4, .ref m5, .ref m6, .ref m7, .ref m8, .ref m9, .ref m10, .ref m11, .ref m12, .ref m13, .ref m14, .ref m15, .ref m16, .ref m17, .ref m18, .ref m19])), (m3, .inl (km3, 102, .inl mds)), (m7, .inl (km7, 270, .inl mbs)), (m12, .inl (km12, 20, .inl mpf)), (m13, .inl (km13, 20, .inl men)), (m14, .inl (km14, 300, .inl g_15)), (m15, .inl (km15, 300, .inl g_16)), (m16, .inl (km16, 300, .inl g_17)), (m17, .inl (km17, 6000, .inl g_23)), (m18, .inl (km18, 6000, .inl (upd ey ((20 * v_14) + i).toNatClampNeg (men i.toNatClampNeg)))), (m19, .inl (km19, 2700, .inl by9))] H := hP
                have hD : va_D A [(m0, .inr (6, [.int ce, .int ms, .int mi, .int mt, .int ma, .int mf, .int v_14, .int mp, .ref m1, .ref m2, .ref m3, .ref m4, .ref m5, .ref m6, .ref m7, .ref m8, .ref m9, .ref m10, .ref m11, .ref m12, .ref m13, .ref m14, .ref m15, .ref m16, .ref m17, .ref m18, .ref m19])), (m3, .inl (km3, 102, .inl mds)), (m7, .inl (km7, 270, .inl mbs)), (m12, .inl (km12, 20, .inl mpf)), (m13, .inl (km13, 20, .inl men)), (m14, .inl (km14, 300, .inl g_15)), (m15, .inl (km15, 300, .inl g_16)), (m16, .inl (km16, 300, .inl g_17)), (m17, .inl (km17, 6000, .inl g_23)), (m18, .inl (km18, 6000, .inl (upd ey ((20 * v_14) + i).toNatClampNeg (men i.toNatClampNeg)))), (m19, .inl (km19, 2700, .inl by9))] := hD
                obtain ⟨g_24, e_g_24⟩ : ∃ y, y = upd ey ((20 * v_14) + i).toNatClampNeg (men i.toNatClampNeg) := ⟨_, rfl⟩
                rw [← e_g_24] at hP hD
                obtain ⟨i_25, e_i_25⟩ : ∃ y : Int32, y = i + 1 := ⟨_, rfl⟩
                refine lv_iinc (v := i_25) (lv' := [(1, .int i_25), (0, .ref m0)]) hx hb dX5_keep_312 hl (k := 1) rfl (by rw [e_i_25]; rfl) (by decide) rfl (fun ls hl => ?_)
                refine lv_goto (tgt := 266) hx hb dX5_keep_315 (by decide) ?_
                exact ih i_25 g_23 g_24 _ _ _ ⟨lv_sub hl [1, 0] rfl, hP, hD, hS, by rw [e_i_25, i_p1 (by omega) (by omega)]; omega, by rw [e_g_23]; exact up_all (P := fun x => 0 ≤ x.toInt ∧ x.toInt ≤ ms.toInt) hP9 (hpf _)⟩ (by rw [e_i_25, i_p1 (by omega) (by omega)]; omega)
            · have hdx : vp_in (mds ma.toNatClampNeg) 30 := ix_r (i_n0 c_222) hdi
              refine lv_aload_n hx hb dX5_keep_225 rfl (lv_at hl 0 rfl) ?_
              refine va_get (D := (dC, dI)) (ci := 6) (v := .ref m19) (C := RX5) (T := TX5) (N := 27) hx hb hts (by decide +kernel) hown hK hP 0 rfl rfl 26 (by decide) (hts (.fieldLink RX5 66 "CobolDebuggerModel" "keptBytes" "[B") (by decide +kernel)) (fun _ h9 => h9) rfl dX5_keep_226 ?_
              refine lv_bipush (v := 9) hx hb dX5_keep_229 (by decide) ?_
              refine lv_aload_n hx hb dX5_keep_231 rfl (lv_at hl 0 rfl) ?_
              refine va_get (D := (dC, dI)) (ci := 6) (v := .int v_14) (C := RX5) (T := TX5) (N := 27) hx hb hts (by decide +kernel) hown hK hP 0 rfl rfl 6 (by decide) (hts (.fieldLink RX5 113 "CobolDebuggerModel" "kept" "I") (by decide +kernel)) (fun _ h9 => h9) rfl dX5_keep_232 ?_
              refine lv_imul hx hb dX5_keep_235 ?_
              refine lv_iload_n hx hb dX5_keep_236 rfl (lv_at hl 1 rfl) ?_
              refine lv_iadd hx hb dX5_keep_237 ?_
              refine lv_aload_n hx hb dX5_keep_238 rfl (lv_at hl 0 rfl) ?_
              refine va_get (D := (dC, dI)) (ci := 6) (v := .ref m7) (C := RX5) (T := TX5) (N := 27) hx hb hts (by decide +kernel) hown hK hP 0 rfl rfl 14 (by decide) (hts (.fieldLink RX5 29 "CobolDebuggerModel" "bytes" "[B") (by decide +kernel)) (fun _ h9 => h9) rfl dX5_keep_239 ?_
              refine lv_bipush (v := 9) hx hb dX5_keep_242 (by decide) ?_
              refine lv_aload_n hx hb dX5_keep_244 rfl (lv_at hl 0 rfl) ?_
              refine va_get (D := (dC, dI)) (ci := 6) (v := .ref m3) (C := RX5) (T := TX5) (N := 27) hx hb hts (by decide +kernel) hown hK hP 0 rfl rfl 10 (by decide) (hts (.fieldLink RX5 16 "CobolDebuggerModel" "does" "[I") (by decide +kernel)) (fun _ h9 => h9) rfl dX5_keep_245 ?_
              refine lv_aload_n hx hb dX5_keep_248 rfl (lv_at hl 0 rfl) ?_
              refine va_get (D := (dC, dI)) (ci := 6) (v := .int ma) (C := RX5) (T := TX5) (N := 27) hx hb hts (by decide +kernel) hown hK hP 0 rfl rfl 4 (by decide) (hts (.fieldLink RX5 79 "CobolDebuggerModel" "at" "I") (by decide +kernel)) (fun _ h9 => h9) rfl dX5_keep_249 ?_
              refine va_iald hx hb hK hP 1 0 rfl rfl (i := ma) hmx dX5_keep_252 ?_
              refine lv_imul hx hb dX5_keep_253 ?_
              refine lv_iload_n hx hb dX5_keep_254 rfl (lv_at hl 1 rfl) ?_
              refine lv_iadd hx hb dX5_keep_255 ?_
              refine va_bald hx hb hK hP 2 1 rfl rfl (i := (9 * (mds ma.toNatClampNeg)) + i) (ix_9m hdx hi0 hlt) dX5_keep_256 ?_
              refine va_bast hx hb hK hP hD hS 10 9 rfl rfl (i := (9 * v_14) + i) (ix_row (w := 9) (n := 300) (by decide) hkx hi0 hlt rfl (by decide) (by decide) (by decide)) dX5_keep_257 (fun H locs hP hD hS => ?_)
              have hP : va_P (dC, dI) vwCl [(m0, .inr (6, [.int ce, .int ms, .int mi, .int mt, .int ma, .int mf, .int v_14, .int mp, .ref m1, .ref m2, .ref m3, .ref m4, .ref m5, .ref m6, .ref m7, .ref m8, .ref m9, .ref m10, .ref m11, .ref m12, .ref m13, .ref m14, .ref m15, .ref m16, .ref m17, .ref m18, .ref m19])), (m3, .inl (km3, 102, .inl mds)), (m7, .inl (km7, 270, .inl mbs)), (m12, .inl (km12, 20, .inl mpf)), (m13, .inl (km13, 20, .inl men)), (m14, .inl (km14, 300, .inl g_15)), (m15, .inl (km15, 300, .inl g_16)), (m16, .inl (km16, 300, .inl g_17)), (m17, .inl (km17, 6000, .inl px)), (m18, .inl (km18, 6000, .inl ex)), (m19, .inl (km19, 2700, .inl (upd by9 ((9 * v_14) + i).toNatClampNeg (vp_nar .byte (mbs ((9 * (mds ma.toNatClampNeg)) + i).toNatClampNeg)))))] H := hP
              have hD : va_D A [(m0, .inr (6, [.int ce, .int ms, .int mi, .int mt, .int ma, .int mf, .int v_14, .int mp, .ref m1, .ref m2, .ref m3, .ref m4, .ref m5, .ref m6, .ref m7, .ref m8, .ref m9, .ref m10, .ref m11, .ref m12, .ref m13, .ref m14, .ref m15, .ref m16, .ref m17, .ref m18, .ref m19])), (m3, .inl (km3, 102, .inl mds)), (m7, .inl (km7, 270, .inl mbs)), (m12, .inl (km12, 20, .inl mpf)), (m13, .inl (km13, 20, .inl men)), (m14, .inl (km14, 300, .inl g_15)), (m15, .inl (km15, 300, .inl g_16)), (m16, .inl (km16, 300, .inl g_17)), (m17, .inl (km17, 6000, .inl px)), (m18, .inl (km18, 6000, .inl ex)), (m19, .inl (km19, 2700, .inl (upd by9 ((9 * v_14) + i).toNatClampNeg (vp_nar .byte (mbs ((9 * (mds ma.toNatClampNeg)) + i).toNatClampNeg)))))] := hD
              obtain ⟨g_26, e_g_26⟩ : ∃ y, y = upd by9 ((9 * v_14) + i).toNatClampNeg (vp_nar .byte (mbs ((9 * (mds ma.toNatClampNeg)) + i).toNatClampNeg)) := ⟨_, rfl⟩
              rw [← e_g_26] at hP hD
              obtain ⟨i_27, e_i_27⟩ : ∃ y : Int32, y = i + 1 := ⟨_, rfl⟩
              refine lv_iinc (v := i_27) (lv' := [(1, .int i_27), (0, .ref m0)]) hx hb dX5_keep_258 hl (k := 1) rfl (by rw [e_i_27]; rfl) (by decide) rfl (fun ls hl => ?_)
              refine lv_goto (tgt := 207) hx hb dX5_keep_261 (by decide) ?_
              exact ih i_27 g_26 _ _ _ ⟨lv_sub hl [1, 0] rfl, hP, hD, hS, by rw [e_i_27, i_p1 (by omega) (by omega)]; omega⟩ (by rw [e_i_27, i_p1 (by omega) (by omega)]; omega)
        · have hlt := n_lt c_122
          have hi1 : vp_in i 6000 := ix_r hi0 (by omega)
          have hi2 : vp_in (i + 20) 6000 := ix_r (by rw [i_k (n := 20) 20 (by decide) (by omega) (by omega)]; omega) (by rw [i_k (n := 20) 20 (by decide) (by omega) (by omega)]; omega)
          refine lv_aload_n hx hb dX5_keep_125 rfl (lv_at hl 0 rfl) ?_
          refine va_get (D := (dC, dI)) (ci := 6) (v := .ref m17) (C := RX5) (T := TX5) (N := 27) hx hb hts (by decide +kernel) hown hK hP 0 rfl rfl 24 (by decide) (hts (.fieldLink RX5 60 "CobolDebuggerModel" "keptPerformed" "[I") (by decide +kernel)) (fun _ h9 => h9) rfl dX5_keep_126 ?_
          refine lv_iload_n hx hb dX5_keep_129 rfl (lv_at hl 1 rfl) ?_
          refine lv_aload_n hx hb dX5_keep_130 rfl (lv_at hl 0 rfl) ?_
          refine va_get (D := (dC, dI)) (ci := 6) (v := .ref m17) (C := RX5) (T := TX5) (N := 27) hx hb hts (by decide +kernel) hown hK hP 0 rfl rfl 24 (by decide) (hts (.fieldLink RX5 60 "CobolDebuggerModel" "keptPerformed" "[I") (by decide +kernel)) (fun _ h9 => h9) rfl dX5_keep_131 ?_
          refine lv_iload_n hx hb dX5_keep_134 rfl (lv_at hl 1 rfl) ?_
          refine lv_bipush (v := 20) hx hb dX5_keep_135 (by decide) ?_
          refine lv_iadd hx hb dX5_keep_137 ?_
          refine va_iald hx hb hK hP 8 7 rfl rfl (i := i + 20) hi2 dX5_keep_138 ?_
          refine va_iast hx hb hK hP hD hS 8 7 rfl rfl (i := i) hi1 dX5_keep_139 (fun H locs hP hD hS => ?_)
          have hP : va_P (dC, dI) vwCl [(m0, .inr (6, [.int ce, .int ms, .int mi, .int mt, .int ma, .int mf, .int v_14, .int mp, .ref m1, .ref m2, .ref m3, .ref m4, .ref m5, .ref m6, .ref m7, .ref m8, .ref m9, .ref m10, .ref m11, .ref m12, .ref m13, .ref m14, .ref m15, .ref m16, .ref m17, .ref m18, .ref m19])), (m3, .inl (km3, 102, .inl mds)), (m7, .inl (km7, 270, .inl mbs)), (m12, .inl (km12, 20, .inl mpf)), (m13, .inl (km13, 20, .inl men)), (m14, .inl (km14, 300, .inl ax)), (m15, .inl (km15, 300, .inl ix)), (m16, .inl (km16, 300, .inl ox)), (m17, .inl (km17, 6000, .inl (upd px i.toNatClampNeg (px (i + 20).toNatClampNeg)))), (m18, .inl (km18, 6000, .inl ex)), (m19, .inl (km19, 2700, .inl bx))] H := hP
          have hD : va_D A [(m0, .inr (6, [.int ce, .int ms, .int mi, .int mt, .int ma, .int mf, .int v_14, .int mp, .ref m1, .ref m2, .ref m3, .ref m4, .ref m5, .ref m6, .ref m7, .ref m8, .ref m9, .ref m10, .ref m11, .ref m12, .ref m13, .ref m14, .ref m15, .ref m16, .ref m17, .ref m18, .ref m19])), (m3, .inl (km3, 102, .inl mds)), (m7, .inl (km7, 270, .inl mbs)), (m12, .inl (km12, 20, .inl mpf)), (m13, .inl (km13, 20, .inl men)), (m14, .inl (km14, 300, .inl ax)), (m15, .inl (km15, 300, .inl ix)), (m16, .inl (km16, 300, .inl ox)), (m17, .inl (km17, 6000, .inl (upd px i.toNatClampNeg (px (i + 20).toNatClampNeg)))), (m18, .inl (km18, 6000, .inl ex)), (m19, .inl (km19, 2700, .inl bx))] := hD
          obtain ⟨g_28, e_g_28⟩ : ∃ y, y = upd px i.toNatClampNeg (px (i + 20).toNatClampNeg) := ⟨_, rfl⟩
          rw [← e_g_28] at hP hD
          refine lv_aload_n hx hb dX5_keep_140 rfl (lv_at hl 0 rfl) ?_
          refine va_get (D := (dC, dI)) (ci := 6) (v := .ref m18) (C := RX5) (T := TX5) (N := 27) hx hb hts (by decide +kernel) hown hK hP 0 rfl rfl 25 (by decide) (hts (.fieldLink RX5 63 "CobolDebuggerModel" "keptEnds" "[I") (by decide +kernel)) (fun _ h9 => h9) rfl dX5_keep_141 ?_
          refine lv_iload_n hx hb dX5_keep_144 rfl (lv_at hl 1 rfl) ?_
          refine lv_aload_n hx hb dX5_keep_145 rfl (lv_at hl 0 rfl) ?_
          refine va_get (D := (dC, dI)) (ci := 6) (v := .ref m18) (C := RX5) (T := TX5) (N := 27) hx hb hts (by decide +kernel) hown hK hP 0 rfl rfl 25 (by decide) (hts (.fieldLink RX5 63 "CobolDebuggerModel" "keptEnds" "[I") (by decide +kernel)) (fun _ h9 => h9) rfl dX5_keep_146 ?_
          refine lv_iload_n hx hb dX5_keep_149 rfl (lv_at hl 1 rfl) ?_
          refine lv_bipush (v := 20) hx hb dX5_keep_150 (by decide) ?_
          refine lv_iadd hx hb dX5_keep_152 ?_
          refine va_iald hx hb hK hP 9 8 rfl rfl (i := i + 20) hi2 dX5_keep_153 ?_
          refine va_iast hx hb hK hP hD hS 9 8 rfl rfl (i := i) hi1 dX5_keep_154 (fun H locs hP hD hS => ?_)
          have hP : va_P (dC, dI) vwCl [(m0, .inr (6, [.int ce, .int ms, .int mi, .int mt, .int ma, .int mf, .int v_14, .int mp, .ref m1, .ref m2, .ref m3, .ref m4, .ref m5, .ref m6, .ref m7, .ref m8, .ref m9, .ref m10, .ref m11, .ref m12, .ref m13, .ref m14, .ref m15, .ref m16, .ref m17, .ref m18, .ref m19])), (m3, .inl (km3, 102, .inl mds)), (m7, .inl (km7, 270, .inl mbs)), (m12, .inl (km12, 20, .inl mpf)), (m13, .inl (km13, 20, .inl men)), (m14, .inl (km14, 300, .inl ax)), (m15, .inl (km15, 300, .inl ix)), (m16, .inl (km16, 300, .inl ox)), (m17, .inl (km17, 6000, .inl g_28)), (m18, .inl (km18, 6000, .inl (upd ex i.toNatClampNeg (ex (i + 20).toNatClampNeg)))), (m19, .inl (km19, 2700, .inl bx))] H := hP
          have hD : va_D A [(m0, .inr (6, [.int ce, .int ms, .int mi, .int mt, .int ma, .int mf, .int v_14, .int mp, .ref m1, .ref m2, .ref m3, .ref m4, .ref m5, .ref m6, .ref m7, .ref m8, .ref m9, .ref m10, .ref m11, .ref m12, .ref m13, .ref m14, .ref m15, .ref m16, .ref m17, .ref m18, .ref m19])), (m3, .inl (km3, 102, .inl mds)), (m7, .inl (km7, 270, .inl mbs)), (m12, .inl (km12, 20, .inl mpf)), (m13, .inl (km13, 20, .inl men)), (m14, .inl (km14, 300, .inl ax)), (m15, .inl (km15, 300, .inl ix)), (m16, .inl (km16, 300, .inl ox)), (m17, .inl (km17, 6000, .inl g_28)), (m18, .inl (km18, 6000, .inl (upd ex i.toNatClampNeg (ex (i + 20).toNatClampNeg)))), (m19, .inl (km19, 2700, .inl bx))] := hD
          obtain ⟨g_29, e_g_29⟩ : ∃ y, y = upd ex i.toNatClampNeg (ex (i + 20).toNatClampNeg) := ⟨_, rfl⟩
          rw [← e_g_29] at hP hD
          obtain ⟨i_30, e_i_30⟩ : ∃ y : Int32, y = i + 1 := ⟨_, rfl⟩
          refine lv_iinc (v := i_30) (lv' := [(1, .int i_30), (0, .ref m0)]) hx hb dX5_keep_155 hl (k := 1) rfl (by rw [e_i_30]; rfl) (by decide) rfl (fun ls hl => ?_)
          refine lv_goto (tgt := 114) hx hb dX5_keep_158 (by decide) ?_
          exact ih i_30 g_28 g_29 _ _ _ ⟨lv_sub hl [1, 0] rfl, hP, hD, hS, by rw [e_i_30, i_p1 (by omega) (by omega)]; omega, by rw [e_g_28]; exact up_all (P := fun x => 0 ≤ x.toInt ∧ x.toInt ≤ ms.toInt) hPx (hPx _)⟩ (by rw [e_i_30, i_p1 (by omega) (by omega)]; omega)
      · have hlt := n_lt c_88
        have hi1 : vp_in i 2700 := ix_r hi0 (by omega)
        have hi2 : vp_in (i + 9) 2700 := ix_r (by rw [i_k (n := 9) 9 (by decide) (by omega) (by omega)]; omega) (by rw [i_k (n := 9) 9 (by decide) (by omega) (by omega)]; omega)
        refine lv_aload_n hx hb dX5_keep_91 rfl (lv_at hl 0 rfl) ?_
        refine va_get (D := (dC, dI)) (ci := 6) (v := .ref m19) (C := RX5) (T := TX5) (N := 27) hx hb hts (by decide +kernel) hown hK hP 0 rfl rfl 26 (by decide) (hts (.fieldLink RX5 66 "CobolDebuggerModel" "keptBytes" "[B") (by decide +kernel)) (fun _ h9 => h9) rfl dX5_keep_92 ?_
        refine lv_iload_n hx hb dX5_keep_95 rfl (lv_at hl 1 rfl) ?_
        refine lv_aload_n hx hb dX5_keep_96 rfl (lv_at hl 0 rfl) ?_
        refine va_get (D := (dC, dI)) (ci := 6) (v := .ref m19) (C := RX5) (T := TX5) (N := 27) hx hb hts (by decide +kernel) hown hK hP 0 rfl rfl 26 (by decide) (hts (.fieldLink RX5 66 "CobolDebuggerModel" "keptBytes" "[B") (by decide +kernel)) (fun _ h9 => h9) rfl dX5_keep_97 ?_
        refine lv_iload_n hx hb dX5_keep_100 rfl (lv_at hl 1 rfl) ?_
        refine lv_bipush (v := 9) hx hb dX5_keep_101 (by decide) ?_
        refine lv_iadd hx hb dX5_keep_103 ?_
        refine va_bald hx hb hK hP 10 9 rfl rfl (i := i + 9) hi2 dX5_keep_104 ?_
        refine va_bast hx hb hK hP hD hS 10 9 rfl rfl (i := i) hi1 dX5_keep_105 (fun H locs hP hD hS => ?_)
        have hP : va_P (dC, dI) vwCl [(m0, .inr (6, [.int ce, .int ms, .int mi, .int mt, .int ma, .int mf, .int v_14, .int mp, .ref m1, .ref m2, .ref m3, .ref m4, .ref m5, .ref m6, .ref m7, .ref m8, .ref m9, .ref m10, .ref m11, .ref m12, .ref m13, .ref m14, .ref m15, .ref m16, .ref m17, .ref m18, .ref m19])), (m3, .inl (km3, 102, .inl mds)), (m7, .inl (km7, 270, .inl mbs)), (m12, .inl (km12, 20, .inl mpf)), (m13, .inl (km13, 20, .inl men)), (m14, .inl (km14, 300, .inl ax)), (m15, .inl (km15, 300, .inl ix)), (m16, .inl (km16, 300, .inl ox)), (m17, .inl (km17, 6000, .inl mkp)), (m18, .inl (km18, 6000, .inl mke)), (m19, .inl (km19, 2700, .inl (upd bx i.toNatClampNeg (vp_nar .byte (bx (i + 9).toNatClampNeg)))))] H := hP
        have hD : va_D A [(m0, .inr (6, [.int ce, .int ms, .int mi, .int mt, .int ma, .int mf, .int v_14, .int mp, .ref m1, .ref m2, .ref m3, .ref m4, .ref m5, .ref m6, .ref m7, .ref m8, .ref m9, .ref m10, .ref m11, .ref m12, .ref m13, .ref m14, .ref m15, .ref m16, .ref m17, .ref m18, .ref m19])), (m3, .inl (km3, 102, .inl mds)), (m7, .inl (km7, 270, .inl mbs)), (m12, .inl (km12, 20, .inl mpf)), (m13, .inl (km13, 20, .inl men)), (m14, .inl (km14, 300, .inl ax)), (m15, .inl (km15, 300, .inl ix)), (m16, .inl (km16, 300, .inl ox)), (m17, .inl (km17, 6000, .inl mkp)), (m18, .inl (km18, 6000, .inl mke)), (m19, .inl (km19, 2700, .inl (upd bx i.toNatClampNeg (vp_nar .byte (bx (i + 9).toNatClampNeg)))))] := hD
        obtain ⟨g_31, e_g_31⟩ : ∃ y, y = upd bx i.toNatClampNeg (vp_nar .byte (bx (i + 9).toNatClampNeg)) := ⟨_, rfl⟩
        rw [← e_g_31] at hP hD
        obtain ⟨i_32, e_i_32⟩ : ∃ y : Int32, y = i + 1 := ⟨_, rfl⟩
        refine lv_iinc (v := i_32) (lv' := [(1, .int i_32), (0, .ref m0)]) hx hb dX5_keep_106 hl (k := 1) rfl (by rw [e_i_32]; rfl) (by decide) rfl (fun ls hl => ?_)
        refine lv_goto (tgt := 80) hx hb dX5_keep_109 (by decide) ?_
        exact ih i_32 g_31 _ _ _ ⟨lv_sub hl [1, 0] rfl, hP, hD, hS, by rw [e_i_32, i_p1 (by omega) (by omega)]; omega⟩ (by rw [e_i_32, i_p1 (by omega) (by omega)]; omega)
    · have hlt := n_lt c_27
      have hi1 : vp_in i 300 := ix_r hi0 (by omega)
      have hi2 : vp_in (i + 1) 300 := ix_r (by rw [i_p1 (by omega) (by omega)]; omega) (by rw [i_p1 (by omega) (by omega)]; omega)
      refine lv_aload_n hx hb dX5_keep_30 rfl (lv_at hl 0 rfl) ?_
      refine va_get (D := (dC, dI)) (ci := 6) (v := .ref m14) (C := RX5) (T := TX5) (N := 27) hx hb hts (by decide +kernel) hown hK hP 0 rfl rfl 21 (by decide) (hts (.fieldLink RX5 51 "CobolDebuggerModel" "keptAt" "[I") (by decide +kernel)) (fun _ h9 => h9) rfl dX5_keep_31 ?_
      refine lv_iload_n hx hb dX5_keep_34 rfl (lv_at hl 1 rfl) ?_
      refine lv_aload_n hx hb dX5_keep_35 rfl (lv_at hl 0 rfl) ?_
      refine va_get (D := (dC, dI)) (ci := 6) (v := .ref m14) (C := RX5) (T := TX5) (N := 27) hx hb hts (by decide +kernel) hown hK hP 0 rfl rfl 21 (by decide) (hts (.fieldLink RX5 51 "CobolDebuggerModel" "keptAt" "[I") (by decide +kernel)) (fun _ h9 => h9) rfl dX5_keep_36 ?_
      refine lv_iload_n hx hb dX5_keep_39 rfl (lv_at hl 1 rfl) ?_
      refine lv_iconst (v := 1) hx hb dX5_keep_40 (by decide) ?_
      refine lv_iadd hx hb dX5_keep_41 ?_
      refine va_iald hx hb hK hP 5 4 rfl rfl (i := i + 1) hi2 dX5_keep_42 ?_
      refine va_iast hx hb hK hP hD hS 5 4 rfl rfl (i := i) hi1 dX5_keep_43 (fun H locs hP hD hS => ?_)
      have hP : va_P (dC, dI) vwCl [(m0, .inr (6, [.int ce, .int ms, .int mi, .int mt, .int ma, .int mf, .int v_14, .int mp, .ref m1, .ref m2, .ref m3, .ref m4, .ref m5, .ref m6, .ref m7, .ref m8, .ref m9, .ref m10, .ref m11, .ref m12, .ref m13, .ref m14, .ref m15, .ref m16, .ref m17, .ref m18, .ref m19])), (m3, .inl (km3, 102, .inl mds)), (m7, .inl (km7, 270, .inl mbs)), (m12, .inl (km12, 20, .inl mpf)), (m13, .inl (km13, 20, .inl men)), (m14, .inl (km14, 300, .inl (upd ax i.toNatClampNeg (ax (i + 1).toNatClampNeg)))), (m15, .inl (km15, 300, .inl ix)), (m16, .inl (km16, 300, .inl ox)), (m17, .inl (km17, 6000, .inl mkp)), (m18, .inl (km18, 6000, .inl mke)), (m19, .inl (km19, 2700, .inl mkb))] H := hP
      have hD : va_D A [(m0, .inr (6, [.int ce, .int ms, .int mi, .int mt, .int ma, .int mf, .int v_14, .int mp, .ref m1, .ref m2, .ref m3, .ref m4, .ref m5, .ref m6, .ref m7, .ref m8, .ref m9, .ref m10, .ref m11, .ref m12, .ref m13, .ref m14, .ref m15, .ref m16, .ref m17, .ref m18, .ref m19])), (m3, .inl (km3, 102, .inl mds)), (m7, .inl (km7, 270, .inl mbs)), (m12, .inl (km12, 20, .inl mpf)), (m13, .inl (km13, 20, .inl men)), (m14, .inl (km14, 300, .inl (upd ax i.toNatClampNeg (ax (i + 1).toNatClampNeg)))), (m15, .inl (km15, 300, .inl ix)), (m16, .inl (km16, 300, .inl ox)), (m17, .inl (km17, 6000, .inl mkp)), (m18, .inl (km18, 6000, .inl mke)), (m19, .inl (km19, 2700, .inl mkb))] := hD
      obtain ⟨g_33, e_g_33⟩ : ∃ y, y = upd ax i.toNatClampNeg (ax (i + 1).toNatClampNeg) := ⟨_, rfl⟩
      rw [← e_g_33] at hP hD
      refine lv_aload_n hx hb dX5_keep_44 rfl (lv_at hl 0 rfl) ?_
      refine va_get (D := (dC, dI)) (ci := 6) (v := .ref m15) (C := RX5) (T := TX5) (N := 27) hx hb hts (by decide +kernel) hown hK hP 0 rfl rfl 22 (by decide) (hts (.fieldLink RX5 54 "CobolDebuggerModel" "keptItems" "[I") (by decide +kernel)) (fun _ h9 => h9) rfl dX5_keep_45 ?_
      refine lv_iload_n hx hb dX5_keep_48 rfl (lv_at hl 1 rfl) ?_
      refine lv_aload_n hx hb dX5_keep_49 rfl (lv_at hl 0 rfl) ?_
      refine va_get (D := (dC, dI)) (ci := 6) (v := .ref m15) (C := RX5) (T := TX5) (N := 27) hx hb hts (by decide +kernel) hown hK hP 0 rfl rfl 22 (by decide) (hts (.fieldLink RX5 54 "CobolDebuggerModel" "keptItems" "[I") (by decide +kernel)) (fun _ h9 => h9) rfl dX5_keep_50 ?_
      refine lv_iload_n hx hb dX5_keep_53 rfl (lv_at hl 1 rfl) ?_
      refine lv_iconst (v := 1) hx hb dX5_keep_54 (by decide) ?_
      refine lv_iadd hx hb dX5_keep_55 ?_
      refine va_iald hx hb hK hP 6 5 rfl rfl (i := i + 1) hi2 dX5_keep_56 ?_
      refine va_iast hx hb hK hP hD hS 6 5 rfl rfl (i := i) hi1 dX5_keep_57 (fun H locs hP hD hS => ?_)
      have hP : va_P (dC, dI) vwCl [(m0, .inr (6, [.int ce, .int ms, .int mi, .int mt, .int ma, .int mf, .int v_14, .int mp, .ref m1, .ref m2, .ref m3, .ref m4, .ref m5, .ref m6, .ref m7, .ref m8, .ref m9, .ref m10, .ref m11, .ref m12, .ref m13, .ref m14, .ref m15, .ref m16, .ref m17, .ref m18, .ref m19])), (m3, .inl (km3, 102, .inl mds)), (m7, .inl (km7, 270, .inl mbs)), (m12, .inl (km12, 20, .inl mpf)), (m13, .inl (km13, 20, .inl men)), (m14, .inl (km14, 300, .inl g_33)), (m15, .inl (km15, 300, .inl (upd ix i.toNatClampNeg (ix (i + 1).toNatClampNeg)))), (m16, .inl (km16, 300, .inl ox)), (m17, .inl (km17, 6000, .inl mkp)), (m18, .inl (km18, 6000, .inl mke)), (m19, .inl (km19, 2700, .inl mkb))] H := hP
      have hD : va_D A [(m0, .inr (6, [.int ce, .int ms, .int mi, .int mt, .int ma, .int mf, .int v_14, .int mp, .ref m1, .ref m2, .ref m3, .ref m4, .ref m5, .ref m6, .ref m7, .ref m8, .ref m9, .ref m10, .ref m11, .ref m12, .ref m13, .ref m14, .ref m15, .ref m16, .ref m17, .ref m18, .ref m19])), (m3, .inl (km3, 102, .inl mds)), (m7, .inl (km7, 270, .inl mbs)), (m12, .inl (km12, 20, .inl mpf)), (m13, .inl (km13, 20, .inl men)), (m14, .inl (km14, 300, .inl g_33)), (m15, .inl (km15, 300, .inl (upd ix i.toNatClampNeg (ix (i + 1).toNatClampNeg)))), (m16, .inl (km16, 300, .inl ox)), (m17, .inl (km17, 6000, .inl mkp)), (m18, .inl (km18, 6000, .inl mke)), (m19, .inl (km19, 2700, .inl mkb))] := hD
      obtain ⟨g_34, e_g_34⟩ : ∃ y, y = upd ix i.toNatClampNeg (ix (i + 1).toNatClampNeg) := ⟨_, rfl⟩
      rw [← e_g_34] at hP hD
      refine lv_aload_n hx hb dX5_keep_58 rfl (lv_at hl 0 rfl) ?_
      refine va_get (D := (dC, dI)) (ci := 6) (v := .ref m16) (C := RX5) (T := TX5) (N := 27) hx hb hts (by decide +kernel) hown hK hP 0 rfl rfl 23 (by decide) (hts (.fieldLink RX5 57 "CobolDebuggerModel" "keptOpen" "[I") (by decide +kernel)) (fun _ h9 => h9) rfl dX5_keep_59 ?_
      refine lv_iload_n hx hb dX5_keep_62 rfl (lv_at hl 1 rfl) ?_
      refine lv_aload_n hx hb dX5_keep_63 rfl (lv_at hl 0 rfl) ?_
      refine va_get (D := (dC, dI)) (ci := 6) (v := .ref m16) (C := RX5) (T := TX5) (N := 27) hx hb hts (by decide +kernel) hown hK hP 0 rfl rfl 23 (by decide) (hts (.fieldLink RX5 57 "CobolDebuggerModel" "keptOpen" "[I") (by decide +kernel)) (fun _ h9 => h9) rfl dX5_keep_64 ?_
      refine lv_iload_n hx hb dX5_keep_67 rfl (lv_at hl 1 rfl) ?_
      refine lv_iconst (v := 1) hx hb dX5_keep_68 (by decide) ?_
      refine lv_iadd hx hb dX5_keep_69 ?_
      refine va_iald hx hb hK hP 7 6 rfl rfl (i := i + 1) hi2 dX5_keep_70 ?_
      refine va_iast hx hb hK hP hD hS 7 6 rfl rfl (i := i) hi1 dX5_keep_71 (fun H locs hP hD hS => ?_)
      have hP : va_P (dC, dI) vwCl [(m0, .inr (6, [.int ce, .int ms, .int mi, .int mt, .int ma, .int mf, .int v_14, .int mp, .ref m1, .ref m2, .ref m3, .ref m4, .ref m5, .ref m6, .ref m7, .ref m8, .ref m9, .ref m10, .ref m11, .ref m12, .ref m13, .ref m14, .ref m15, .ref m16, .ref m17, .ref m18, .ref m19])), (m3, .inl (km3, 102, .inl mds)), (m7, .inl (km7, 270, .inl mbs)), (m12, .inl (km12, 20, .inl mpf)), (m13, .inl (km13, 20, .inl men)), (m14, .inl (km14, 300, .inl g_33)), (m15, .inl (km15, 300, .inl g_34)), (m16, .inl (km16, 300, .inl (upd ox i.toNatClampNeg (ox (i + 1).toNatClampNeg)))), (m17, .inl (km17, 6000, .inl mkp)), (m18, .inl (km18, 6000, .inl mke)), (m19, .inl (km19, 2700, .inl mkb))] H := hP
      have hD : va_D A [(m0, .inr (6, [.int ce, .int ms, .int mi, .int mt, .int ma, .int mf, .int v_14, .int mp, .ref m1, .ref m2, .ref m3, .ref m4, .ref m5, .ref m6, .ref m7, .ref m8, .ref m9, .ref m10, .ref m11, .ref m12, .ref m13, .ref m14, .ref m15, .ref m16, .ref m17, .ref m18, .ref m19])), (m3, .inl (km3, 102, .inl mds)), (m7, .inl (km7, 270, .inl mbs)), (m12, .inl (km12, 20, .inl mpf)), (m13, .inl (km13, 20, .inl men)), (m14, .inl (km14, 300, .inl g_33)), (m15, .inl (km15, 300, .inl g_34)), (m16, .inl (km16, 300, .inl (upd ox i.toNatClampNeg (ox (i + 1).toNatClampNeg)))), (m17, .inl (km17, 6000, .inl mkp)), (m18, .inl (km18, 6000, .inl mke)), (m19, .inl (km19, 2700, .inl mkb))] := hD
      obtain ⟨g_35, e_g_35⟩ : ∃ y, y = upd ox i.toNatClampNeg (ox (i + 1).toNatClampNeg) := ⟨_, rfl⟩
      rw [← e_g_35] at hP hD
      obtain ⟨i_36, e_i_36⟩ : ∃ y : Int32, y = i + 1 := ⟨_, rfl⟩
      refine lv_iinc (v := i_36) (lv' := [(1, .int i_36), (0, .ref m0)]) hx hb dX5_keep_72 hl (k := 1) rfl (by rw [e_i_36]; rfl) (by decide) rfl (fun ls hl => ?_)
      refine lv_goto (tgt := 22) hx hb dX5_keep_75 (by decide) ?_
      exact ih i_36 g_33 g_34 g_35 _ _ _ ⟨lv_sub hl [1, 0] rfl, hP, hD, hS, by rw [e_i_36, i_p1 (by omega) (by omega)]; omega, by rw [e_g_33]; exact up_all (P := fun x => 0 ≤ x.toInt ∧ x.toInt ≤ ms.toInt) hA (hA _), by rw [e_g_34]; exact up_all (P := fun x => x.toInt < 30) hI (hI _), by rw [e_g_35]; exact up_all (P := fun x => 0 ≤ x.toInt ∧ x.toInt ≤ 20) hO (hO _)⟩ (by rw [e_i_36, i_p1 (by omega) (by omega)]; omega)

set_option maxHeartbeats 4000000 in
set_option maxRecDepth 100000 in
theorem c_X5_isMet (l : Launch) (dC : Nat → ClassId) (dI : Nat → Nat → Nat) (m0 m1 m2 m3 m4 m5 m6 m7 m8 m9 m10 m11 m12 m13 m14 m15 m16 m17 m18 m19 : Nat) (km5 km6 km7 km8 km9 km10 : ClassId) (mus mss mbs mkd mof mcd : Nat → Int32) (ce ms mi mt ma mf mk mp : Int32) (sp : Int32) (im : Int32) (ot : Int32) (hsp : vp_in sp 21) (hit : itI mi mss) (hof : mkd sp.toNatClampNeg = 3 → 0 ≤ (mof sp.toNatClampNeg).toInt ∧ (mof sp.toNatClampNeg).toInt < mi.toInt) : Met l yX5_isMet wsX5_isMet ({ frames := 3, cells := 0, slots := 0, locals := 69 }) (va_Pc [.ref m0, .int sp, .int im, .int ot] (fun U => va_P (dC, dI) vwCl [(m0, .inr (6, [.int ce, .int ms, .int mi, .int mt, .int ma, .int mf, .int mk, .int mp, .ref m1, .ref m2, .ref m3, .ref m4, .ref m5, .ref m6, .ref m7, .ref m8, .ref m9, .ref m10, .ref m11, .ref m12, .ref m13, .ref m14, .ref m15, .ref m16, .ref m17, .ref m18, .ref m19])), (m5, .inl (km5, 30, .inl mus)), (m6, .inl (km6, 30, .inl mss)), (m7, .inl (km7, 270, .inl mbs)), (m8, .inl (km8, 21, .inl mkd)), (m9, .inl (km9, 21, .inl mof)), (m10, .inl (km10, 21, .inl mcd))] U.heap ∧ va_K (dC, dI) vwCl [(km5, .int), (km6, .int), (km7, .byte), (km8, .int), (km9, .int), (km10, .int)] U)) (va_Qi (fun (r : Int32) (_ : Unit) => True) (fun _ _ => True) (fun _ => False)) 0 0 (fun _ => False) := by
  refine Met.ofW (cc := cX5_isMet) (maxL := 6) (ret := (some .boolean)) (by decide) rfl ?_
  intro p e s m args below meth c s₁ B hml hv
  obtain ⟨rfl, hP, hK⟩ := hv
  have hx := B.exec
  have hb := B.bytes
  have hr := B.returns
  have hts := atoms_spec (ws := wsX5_isMet) B.pre
  have hown : s.vm.findClass RX5 = some m.cls := findClass_of_methodNamed B.named
  have hlocks := B.notSynchronized
  have hS : va_S (fun _ => False) s.heap s.heap [] := va_S.rf
  have hl := lv_entry ([.ref m0, .int sp, .int im, .int ot]) (n := 6) (Nat.le_of_ble_eq_true rfl)
  rw [lg_entry_eq]
  generalize (lg_sl ([.ref m0, .int sp, .int im, .int ot]) ++ List.replicate (6 - (lg_sl ([.ref m0, .int sp, .int im, .int ot])).length) Slot.unset).toArray = ls at hl ⊢
  have hl : lv_has ls 6 [(0, .ref m0), (1, .int sp), (2, .int im), (3, .int ot)] := hl
  refine lv_aload_n hx hb dX5_isMet_0 rfl (lv_at hl 0 rfl) ?_
  refine va_get (D := (dC, dI)) (ci := 6) (v := .ref m8) (C := RX5) (T := TX5) (N := 27) hx hb hts (by decide +kernel) hown hK hP 0 rfl rfl 15 (by decide) (hts (.fieldLink RX5 33 "CobolDebuggerModel" "stopKinds" "[I") (by decide +kernel)) (fun _ h9 => h9) rfl dX5_isMet_1 ?_
  refine lv_iload_n hx hb dX5_isMet_4 rfl (lv_at hl 1 rfl) ?_
  refine va_iald hx hb hK hP 4 3 rfl rfl (i := sp) hsp dX5_isMet_5 ?_
  refine lv_istore (lv' := [(4, .int (mkd sp.toNatClampNeg)), (0, .ref m0), (1, .int sp), (2, .int im), (3, .int ot)]) hx hb dX5_isMet_6 hl (by decide) rfl (fun ls hl => ?_)
  refine lv_aload_n hx hb dX5_isMet_8 rfl (lv_at hl 1 rfl) ?_
  refine va_get (D := (dC, dI)) (ci := 6) (v := .ref m9) (C := RX5) (T := TX5) (N := 27) hx hb hts (by decide +kernel) hown hK hP 0 rfl rfl 16 (by decide) (hts (.fieldLink RX5 36 "CobolDebuggerModel" "ofs" "[I") (by decide +kernel)) (fun _ h9 => h9) rfl dX5_isMet_9 ?_
  refine lv_iload_n hx hb dX5_isMet_12 rfl (lv_at hl 2 rfl) ?_
  refine va_iald hx hb hK hP 5 4 rfl rfl (i := sp) hsp dX5_isMet_13 ?_
  refine lv_istore (lv' := [(5, .int (mof sp.toNatClampNeg)), (4, .int (mkd sp.toNatClampNeg)), (0, .ref m0), (1, .int sp), (2, .int im), (3, .int ot)]) hx hb dX5_isMet_14 hl (by decide) rfl (fun ls hl => ?_)
  refine lv_iload hx hb dX5_isMet_16 (lv_at hl 1 rfl) ?_
  refine lv_iconst (v := 2) hx hb dX5_isMet_18 (by decide) ?_
  refine lv_icmp_ne (tgt := 38) hx hb dX5_isMet_19 (by decide) (fun c_19 => ?_) (fun c_19 => ?_)
  · refine lv_iload hx hb dX5_isMet_38 (lv_at hl 1 rfl) ?_
    refine lv_iconst (v := 3) hx hb dX5_isMet_40 (by decide) ?_
    refine lv_icmp_ne (tgt := 74) hx hb dX5_isMet_41 (by decide) (fun c_41 => ?_) (fun c_41 => ?_)
    · refine lv_iconst (v := 0) hx hb dX5_isMet_74 (by decide) ?_
      exact W.zret (v := 0) hx hb hr (by decide) (fun t ht hW => ⟨⟨0, (), rfl, trivial, trivial⟩, hS.F ht⟩) hS.2.2 dX5_isMet_75
    · have hq := hof c_41
      refine lv_aload_n hx hb dX5_isMet_44 rfl (lv_at hl 2 rfl) ?_
      refine lv_iload hx hb dX5_isMet_45 (lv_at hl 0 rfl) ?_
      have hPc := hP.sub (ws' := [(m0, .inr (6, [.int ce, .int ms, .int mi, .int mt, .int ma, .int mf, .int mk, .int mp, .ref m1, .ref m2, .ref m3, .ref m4, .ref m5, .ref m6, .ref m7, .ref m8, .ref m9, .ref m10, .ref m11, .ref m12, .ref m13, .ref m14, .ref m15, .ref m16, .ref m17, .ref m18, .ref m19])), (m5, .inl (km5, 30, .inl mus)), (m6, .inl (km6, 30, .inl mss)), (m7, .inl (km7, 270, .inl mbs))]) [0, 1, 2, 3] rfl
      have hKc := hK.sub (tys' := [(km5, .int), (km6, .int), (km7, .byte)]) [0, 1, 2] rfl
      refine va_calli (va_runV (As := [.int (mof sp.toNatClampNeg)]) (rest := []) ⟨hx, hb, hml, hown, hts⟩ (c_X5_isBad l dC dI m0 m1 m2 m3 m4 m5 m6 m7 m8 m9 m10 m11 m12 m13 m14 m15 m16 m17 m18 m19 km5 km6 km7 mus mss mbs ce ms mi mt ma mf mk mp (mof sp.toNatClampNeg) (it_in hit hq.1 hq.2) ((it_s hit hq.1 hq.2).1) ((it_s hit hq.1 hq.2).2)) (cwV 1 hts gX5_isMet_X5_isBad rfl rfl rfl (by decide +kernel) ⟨Nat.le_of_ble_eq_true rfl, Nat.le_of_ble_eq_true rfl⟩) ⟨fun a U g mk q => by obtain ⟨q0, qP, qK⟩ := q; exact ⟨q0, qP, va_K.moved (u := U) (U := U.calling g mk a) (Vm.Alike.refl U.vm) qK⟩, va_recv hKc hPc (ci := 6) (q0 := 0) rfl rfl, fun U hU hW => ⟨rfl, by rw [hU]; exact hPc, va_K.moved hW.alike hKc⟩⟩ rfl rfl hl.1 rfl (lv_room (Nat.le_of_ble_eq_true rfl)) dX5_isMet_47 ⟨Nat.zero_le _, Nat.zero_le _⟩) hS (fun q _ h => h.elim) (fun q h => h.elim) (fun r_47 u t H1 locs ht hvm w_47 hB hz1 hk1 hS => ?_)
      try dsimp only at w_47
      have hP := rd_keep hP hk1
      clear hB hk1 hz1 ht hvm u t
      generalize H1 = H at hP hS ⊢
      refine lv_if_ne (tgt := 74) hx hb dX5_isMet_50 (by decide) (fun c_50 => ?_) (fun c_50 => ?_)
      · refine lv_iconst (v := 0) hx hb dX5_isMet_74 (by decide) ?_
        exact W.zret (v := 0) hx hb hr (by decide) (fun t ht hW => ⟨⟨0, (), rfl, trivial, trivial⟩, hS.F ht⟩) hS.2.2 dX5_isMet_75
      · refine lv_aload_n hx hb dX5_isMet_53 rfl (lv_at hl 2 rfl) ?_
        refine lv_iload hx hb dX5_isMet_54 (lv_at hl 0 rfl) ?_
        have hPc := hP.sub (ws' := [(m0, .inr (6, [.int ce, .int ms, .int mi, .int mt, .int ma, .int mf, .int mk, .int mp, .ref m1, .ref m2, .ref m3, .ref m4, .ref m5, .ref m6, .ref m7, .ref m8, .ref m9, .ref m10, .ref m11, .ref m12, .ref m13, .ref m14, .ref m15, .ref m16, .ref m17, .ref m18, .ref m19])), (m5, .inl (km5, 30, .inl mus)), (m6, .inl (km6, 30, .inl mss)), (m7, .inl (km7, 270, .inl mbs))]) [0, 1, 2, 3] rfl
        have hKc := hK.sub (tys' := [(km5, .int), (km6, .int), (km7, .byte)]) [0, 1, 2] rfl
        refine va_calll (va_runV (As := [.int (mof sp.toNatClampNeg)]) (rest := []) ⟨hx, hb, hml, hown, hts⟩ (c_X5_says l dC dI m0 m1 m2 m3 m4 m5 m6 m7 m8 m9 m10 m11 m12 m13 m14 m15 m16 m17 m18 m19 km5 km6 km7 mus mss mbs ce ms mi mt ma mf mk mp (mof sp.toNatClampNeg) (it_in hit hq.1 hq.2) ((it_s hit hq.1 hq.2).1) ((it_s hit hq.1 hq.2).2)) (cwV 1 hts gX5_isMet_X5_says rfl rfl rfl (by decide +kernel) ⟨Nat.le_of_ble_eq_true rfl, Nat.le_of_ble_eq_true rfl⟩) ⟨fun a U g mk q => by obtain ⟨q0, qP, qK⟩ := q; exact ⟨q0, qP, va_K.moved (u := U) (U := U.calling g mk a) (Vm.Alike.refl U.vm) qK⟩, va_recv hKc hPc (ci := 6) (q0 := 0) rfl rfl, fun U hU hW => ⟨rfl, by rw [hU]; exact hPc, va_K.moved hW.alike hKc⟩⟩ rfl rfl hl.1 rfl (lv_room (Nat.le_of_ble_eq_true rfl)) dX5_isMet_56 ⟨Nat.zero_le _, Nat.zero_le _⟩) hS (fun q _ h => h.elim) (fun q h => h.elim) (fun r_56 u t H1 locs ht hvm w_56 hB hz1 hk1 hS => ?_)
        try dsimp only at w_56
        have hP := rd_keep hP hk1
        clear hB hk1 hz1 ht hvm u t
        generalize H1 = H at hP hS ⊢
        refine lv_aload_n hx hb dX5_isMet_59 rfl (lv_at hl 2 rfl) ?_
        refine va_get (D := (dC, dI)) (ci := 6) (v := .ref m10) (C := RX5) (T := TX5) (N := 27) hx hb hts (by decide +kernel) hown hK hP 0 rfl rfl 17 (by decide) (hts (.fieldLink RX5 39 "CobolDebuggerModel" "conditions" "[I") (by decide +kernel)) (fun _ h9 => h9) rfl dX5_isMet_60 ?_
        refine lv_iload_n hx hb dX5_isMet_63 rfl (lv_at hl 3 rfl) ?_
        refine va_iald hx hb hK hP 6 5 rfl rfl (i := sp) hsp dX5_isMet_64 ?_
        refine lv_i2l hx hb dX5_isMet_65 rfl ?_
        refine W.lcmp hx hb dX5_isMet_66 ?_
        refine lv_if_lt (tgt := 74) hx hb dX5_isMet_67 (by decide) (fun c_67 => ?_) (fun c_67 => ?_)
        · refine lv_iconst (v := 0) hx hb dX5_isMet_74 (by decide) ?_
          exact W.zret (v := 0) hx hb hr (by decide) (fun t ht hW => ⟨⟨0, (), rfl, trivial, trivial⟩, hS.F ht⟩) hS.2.2 dX5_isMet_75
        · refine lv_iconst (v := 1) hx hb dX5_isMet_70 (by decide) ?_
          refine lv_goto (tgt := 75) hx hb dX5_isMet_71 (by decide) ?_
          exact W.zret (v := 1) hx hb hr (by decide) (fun t ht hW => ⟨⟨1, (), rfl, trivial, trivial⟩, hS.F ht⟩) hS.2.2 dX5_isMet_75
  · refine lv_iload_n hx hb dX5_isMet_22 rfl (lv_at hl 5 rfl) ?_
    refine lv_if_eq (tgt := 36) hx hb dX5_isMet_23 (by decide) (fun c_23 => ?_) (fun c_23 => ?_)
    · refine lv_iconst (v := 0) hx hb dX5_isMet_36 (by decide) ?_
      exact W.zret (v := 0) hx hb hr (by decide) (fun t ht hW => ⟨⟨0, (), rfl, trivial, trivial⟩, hS.F ht⟩) hS.2.2 dX5_isMet_37
    · refine lv_iload_n hx hb dX5_isMet_26 rfl (lv_at hl 4 rfl) ?_
      refine lv_iload hx hb dX5_isMet_27 (lv_at hl 0 rfl) ?_
      refine lv_icmp_ne (tgt := 36) hx hb dX5_isMet_29 (by decide) (fun c_29 => ?_) (fun c_29 => ?_)
      · refine lv_iconst (v := 0) hx hb dX5_isMet_36 (by decide) ?_
        exact W.zret (v := 0) hx hb hr (by decide) (fun t ht hW => ⟨⟨0, (), rfl, trivial, trivial⟩, hS.F ht⟩) hS.2.2 dX5_isMet_37
      · refine lv_iconst (v := 1) hx hb dX5_isMet_32 (by decide) ?_
        refine lv_goto (tgt := 37) hx hb dX5_isMet_33 (by decide) ?_
        exact W.zret (v := 1) hx hb hr (by decide) (fun t ht hW => ⟨⟨1, (), rfl, trivial, trivial⟩, hS.F ht⟩) hS.2.2 dX5_isMet_37

set_option maxHeartbeats 4000000 in
set_option maxRecDepth 100000 in
theorem c_X5_isAhead (l : Launch) (dC : Nat → ClassId) (dI : Nat → Nat → Nat) (m0 m1 m2 m3 m4 m5 m6 m7 m8 m9 m10 m11 m12 m13 m14 m15 m16 m17 m18 m19 : Nat) (km1 km2 km8 km9 : ClassId) (mpg mln mkd mof : Nat → Int32) (ce ms mi mt ma mf mk mp : Int32) (sp : Int32) (hs0 : 0 ≤ ms.toInt) (hs1 : ms.toInt ≤ 100) (hsp : vp_in sp 21) (hma : vp_in ma 102) : Met l yX5_isAhead wsX5_isAhead ({ frames := 1, cells := 0, slots := 0, locals := 23 }) (va_Pc [.ref m0, .int sp] (fun U => va_P (dC, dI) vwCl [(m0, .inr (6, [.int ce, .int ms, .int mi, .int mt, .int ma, .int mf, .int mk, .int mp, .ref m1, .ref m2, .ref m3, .ref m4, .ref m5, .ref m6, .ref m7, .ref m8, .ref m9, .ref m10, .ref m11, .ref m12, .ref m13, .ref m14, .ref m15, .ref m16, .ref m17, .ref m18, .ref m19])), (m1, .inl (km1, 102, .inl mpg)), (m2, .inl (km2, 102, .inl mln)), (m8, .inl (km8, 21, .inl mkd)), (m9, .inl (km9, 21, .inl mof))] U.heap ∧ va_K (dC, dI) vwCl [(km1, .int), (km2, .int), (km8, .int), (km9, .int)] U)) (va_Qi (fun (r : Int32) (_ : Unit) => True) (fun _ _ => True) (fun _ => False)) 0 0 (fun _ => False) := by
  refine Met.ofW (cc := cX5_isAhead) (maxL := 3) (ret := (some .boolean)) (by decide) rfl ?_
  intro p e s m args below meth c s₁ B hml hv
  obtain ⟨rfl, hP, hK⟩ := hv
  have hx := B.exec
  have hb := B.bytes
  have hr := B.returns
  have hts := atoms_spec (ws := wsX5_isAhead) B.pre
  have hown : s.vm.findClass RX5 = some m.cls := findClass_of_methodNamed B.named
  have hlocks := B.notSynchronized
  have hS : va_S (fun _ => False) s.heap s.heap [] := va_S.rf
  have hl := lv_entry ([.ref m0, .int sp]) (n := 3) (Nat.le_of_ble_eq_true rfl)
  rw [lg_entry_eq]
  generalize (lg_sl ([.ref m0, .int sp]) ++ List.replicate (3 - (lg_sl ([.ref m0, .int sp])).length) Slot.unset).toArray = ls at hl ⊢
  have hl : lv_has ls 3 [(0, .ref m0), (1, .int sp)] := hl
  refine lv_aload_n hx hb dX5_isAhead_0 rfl (lv_at hl 0 rfl) ?_
  refine va_get (D := (dC, dI)) (ci := 6) (v := .ref m8) (C := RX5) (T := TX5) (N := 27) hx hb hts (by decide +kernel) hown hK hP 0 rfl rfl 15 (by decide) (hts (.fieldLink RX5 33 "CobolDebuggerModel" "stopKinds" "[I") (by decide +kernel)) (fun _ h9 => h9) rfl dX5_isAhead_1 ?_
  refine lv_iload_n hx hb dX5_isAhead_4 rfl (lv_at hl 1 rfl) ?_
  refine va_iald hx hb hK hP 3 2 rfl rfl (i := sp) hsp dX5_isAhead_5 ?_
  refine lv_istore_n (lv' := [(2, .int (mkd sp.toNatClampNeg)), (0, .ref m0), (1, .int sp)]) hx hb dX5_isAhead_6 rfl hl (by decide) rfl (fun ls hl => ?_)
  refine lv_iload_n hx hb dX5_isAhead_7 rfl (lv_at hl 0 rfl) ?_
  refine lv_if_ne (tgt := 34) hx hb dX5_isAhead_8 (by decide) (fun c_8 => ?_) (fun c_8 => ?_)
  · refine lv_iload_n hx hb dX5_isAhead_34 rfl (lv_at hl 0 rfl) ?_
    refine lv_iconst (v := 1) hx hb dX5_isAhead_35 (by decide) ?_
    refine lv_icmp_ne (tgt := 61) hx hb dX5_isAhead_36 (by decide) (fun c_36 => ?_) (fun c_36 => ?_)
    · refine lv_iconst (v := 0) hx hb dX5_isAhead_61 (by decide) ?_
      exact W.zret (v := 0) hx hb hr (by decide) (fun t ht hW => ⟨⟨0, (), rfl, trivial, trivial⟩, hS.F ht⟩) hS.2.2 dX5_isAhead_62
    · refine lv_aload_n hx hb dX5_isAhead_39 rfl (lv_at hl 1 rfl) ?_
      refine va_get (D := (dC, dI)) (ci := 6) (v := .ref m2) (C := RX5) (T := TX5) (N := 27) hx hb hts (by decide +kernel) hown hK hP 0 rfl rfl 9 (by decide) (hts (.fieldLink RX5 13 "CobolDebuggerModel" "lines" "[I") (by decide +kernel)) (fun _ h9 => h9) rfl dX5_isAhead_40 ?_
      refine lv_aload_n hx hb dX5_isAhead_43 rfl (lv_at hl 1 rfl) ?_
      refine va_get (D := (dC, dI)) (ci := 6) (v := .int ma) (C := RX5) (T := TX5) (N := 27) hx hb hts (by decide +kernel) hown hK hP 0 rfl rfl 4 (by decide) (hts (.fieldLink RX5 79 "CobolDebuggerModel" "at" "I") (by decide +kernel)) (fun _ h9 => h9) rfl dX5_isAhead_44 ?_
      refine va_iald hx hb hK hP 2 1 rfl rfl (i := ma) hma dX5_isAhead_47 ?_
      refine lv_aload_n hx hb dX5_isAhead_48 rfl (lv_at hl 1 rfl) ?_
      refine va_get (D := (dC, dI)) (ci := 6) (v := .ref m9) (C := RX5) (T := TX5) (N := 27) hx hb hts (by decide +kernel) hown hK hP 0 rfl rfl 16 (by decide) (hts (.fieldLink RX5 36 "CobolDebuggerModel" "ofs" "[I") (by decide +kernel)) (fun _ h9 => h9) rfl dX5_isAhead_49 ?_
      refine lv_iload_n hx hb dX5_isAhead_52 rfl (lv_at hl 2 rfl) ?_
      refine va_iald hx hb hK hP 4 3 rfl rfl (i := sp) hsp dX5_isAhead_53 ?_
      refine lv_icmp_ne (tgt := 61) hx hb dX5_isAhead_54 (by decide) (fun c_54 => ?_) (fun c_54 => ?_)
      · refine lv_iconst (v := 0) hx hb dX5_isAhead_61 (by decide) ?_
        exact W.zret (v := 0) hx hb hr (by decide) (fun t ht hW => ⟨⟨0, (), rfl, trivial, trivial⟩, hS.F ht⟩) hS.2.2 dX5_isAhead_62
      · refine lv_iconst (v := 1) hx hb dX5_isAhead_57 (by decide) ?_
        refine lv_goto (tgt := 62) hx hb dX5_isAhead_58 (by decide) ?_
        exact W.zret (v := 1) hx hb hr (by decide) (fun t ht hW => ⟨⟨1, (), rfl, trivial, trivial⟩, hS.F ht⟩) hS.2.2 dX5_isAhead_62
  · refine lv_aload_n hx hb dX5_isAhead_11 rfl (lv_at hl 1 rfl) ?_
    refine va_get (D := (dC, dI)) (ci := 6) (v := .int ma) (C := RX5) (T := TX5) (N := 27) hx hb hts (by decide +kernel) hown hK hP 0 rfl rfl 4 (by decide) (hts (.fieldLink RX5 79 "CobolDebuggerModel" "at" "I") (by decide +kernel)) (fun _ h9 => h9) rfl dX5_isAhead_12 ?_
    refine lv_aload_n hx hb dX5_isAhead_15 rfl (lv_at hl 1 rfl) ?_
    refine lv_aload_n hx hb dX5_isAhead_16 rfl (lv_at hl 1 rfl) ?_
    refine va_get (D := (dC, dI)) (ci := 6) (v := .ref m9) (C := RX5) (T := TX5) (N := 27) hx hb hts (by decide +kernel) hown hK hP 0 rfl rfl 16 (by decide) (hts (.fieldLink RX5 36 "CobolDebuggerModel" "ofs" "[I") (by decide +kernel)) (fun _ h9 => h9) rfl dX5_isAhead_17 ?_
    refine lv_iload_n hx hb dX5_isAhead_20 rfl (lv_at hl 2 rfl) ?_
    refine va_iald hx hb hK hP 4 3 rfl rfl (i := sp) hsp dX5_isAhead_21 ?_
    have hPc := hP.sub (ws' := [(m0, .inr (6, [.int ce, .int ms, .int mi, .int mt, .int ma, .int mf, .int mk, .int mp, .ref m1, .ref m2, .ref m3, .ref m4, .ref m5, .ref m6, .ref m7, .ref m8, .ref m9, .ref m10, .ref m11, .ref m12, .ref m13, .ref m14, .ref m15, .ref m16, .ref m17, .ref m18, .ref m19])), (m1, .inl (km1, 102, .inl mpg))]) [0, 1] rfl
    have hKc := hK.sub (tys' := [(km1, .int)]) [0] rfl
    refine va_calli (va_runV (As := [.int (mof sp.toNatClampNeg)]) (rest := [.int ma]) ⟨hx, hb, hml, hown, hts⟩ (c_X5_firstOf l dC dI m0 m1 m2 m3 m4 m5 m6 m7 m8 m9 m10 m11 m12 m13 m14 m15 m16 m17 m18 m19 km1 mpg ce ms mi mt ma mf mk mp (mof sp.toNatClampNeg) (hs0) (hs1)) (cwV 1 hts gX5_isAhead_X5_firstOf rfl rfl rfl (by decide +kernel) ⟨Nat.le_of_ble_eq_true rfl, Nat.le_of_ble_eq_true rfl⟩) ⟨fun a U g mk q => by obtain ⟨q0, qP, qK⟩ := q; exact ⟨q0, qP, va_K.moved (u := U) (U := U.calling g mk a) (Vm.Alike.refl U.vm) qK⟩, va_recv hKc hPc (ci := 6) (q0 := 0) rfl rfl, fun U hU hW => ⟨rfl, by rw [hU]; exact hPc, va_K.moved hW.alike hKc⟩⟩ rfl rfl hl.1 rfl (lv_room (Nat.le_of_ble_eq_true rfl)) dX5_isAhead_22 ⟨Nat.zero_le _, Nat.zero_le _⟩) hS (fun q _ h => h.elim) (fun q h => h.elim) (fun r_22 u t H1 locs ht hvm w_22 hB hz1 hk1 hS => ?_)
    try dsimp only at w_22
    have hP := rd_keep hP hk1
    clear hB hk1 hz1 ht hvm u t
    generalize H1 = H at hP hS ⊢
    refine lv_icmp_ne (tgt := 32) hx hb dX5_isAhead_25 (by decide) (fun c_25 => ?_) (fun c_25 => ?_)
    · refine lv_iconst (v := 0) hx hb dX5_isAhead_32 (by decide) ?_
      exact W.zret (v := 0) hx hb hr (by decide) (fun t ht hW => ⟨⟨0, (), rfl, trivial, trivial⟩, hS.F ht⟩) hS.2.2 dX5_isAhead_33
    · refine lv_iconst (v := 1) hx hb dX5_isAhead_28 (by decide) ?_
      refine lv_goto (tgt := 33) hx hb dX5_isAhead_29 (by decide) ?_
      exact W.zret (v := 1) hx hb hr (by decide) (fun t ht hW => ⟨⟨1, (), rfl, trivial, trivial⟩, hS.F ht⟩) hS.2.2 dX5_isAhead_33
