/-- what a throw needs of the state: the texts' cells, two statics of Throwable, the words that a warming does not keep by itself -/
def xB : List (String × String) := [("java/lang/IllegalArgumentException", "java/lang/IllegalArgumentException"), ("java/lang/IllegalStateException", "java/lang/IllegalStateException"), ("java/lang/ArrayIndexOutOfBoundsException", "java/lang/ArrayIndexOutOfBoundsException")]
def xD : List MethodName := [⟨"java/lang/RuntimeException", "<init>", "(Ljava/lang/String;)V"⟩, ⟨"java/lang/Exception", "<init>", "(Ljava/lang/String;)V"⟩, ⟨"java/lang/Throwable", "<init>", "(Ljava/lang/String;)V"⟩, ⟨"java/lang/IndexOutOfBoundsException", "<init>", "(Ljava/lang/String;)V"⟩]
def xW (sa1 sa2 sa3 : Nat) (A : Nat → Prop) (U : State) : Prop := vk_R RX4 105 "no such item" sa1 U ∧ vk_R RX4 115 "a byte of the item is no digit" sa2 U ∧ vk_R RX4 155 "no such item or byte" sa3 U ∧ vx_Zq Bundle.tN "UNASSIGNED_STACK" Bundle.steD A U U.heap ∧ vx_Zq Bundle.tN "SUPPRESSED_SENTINEL" Bundle.listD A U U.heap ∧ (∀ q ∈ xB, va_Nw (.castable q.1 q.2) U) ∧ ∀ y ∈ xD, va_Nw (.declares y) U
theorem xW_same {sa1 sa2 sa3 : Nat} {A : Nat → Prop} {U : State} {g : JFrame} {mk : MethodId} {a : Array Value} (h : xW sa1 sa2 sa3 A U) : xW sa1 sa2 sa3 A (U.calling g mk a) :=
  ⟨vk_R.same rfl h.1, vk_R.same rfl h.2.1, vk_R.same rfl h.2.2.1, vx_Zq.moved (u := U) (U := U.calling g mk a) (Vm.Alike.refl U.vm) h.2.2.2.1, vx_Zq.moved (u := U) (U := U.calling g mk a) (Vm.Alike.refl U.vm) h.2.2.2.2.1, fun q hq => va_Nw.same rfl rfl (h.2.2.2.2.2.1 q hq), fun y hy => va_Nw.same rfl rfl (h.2.2.2.2.2.2 y hy)⟩
theorem xW_in {s U : State} {A B : Nat → Prop} {H : Heap} {locs : List Loc} {sa1 sa2 sa3 : Nat} (hW : s.WarmedH U.vm) (hU : U.heap = H) (hS : va_S A s.heap H locs) (hF : ∀ q, B q → A q) (h : xW sa1 sa2 sa3 A s) : xW sa1 sa2 sa3 B U :=
  ⟨vk_R.warm hW h.1, vk_R.warm hW h.2.1, vk_R.warm hW h.2.2.1, by rw [hU]; exact ((h.2.2.2.1.kept hS.2.1).moved hW.alike).narrow hF, by rw [hU]; exact ((h.2.2.2.2.1.kept hS.2.1).moved hW.alike).narrow hF, fun q hq => va_Nw.warmC hW (h.2.2.2.2.2.1 q hq), fun y hy => va_Nw.warmD hW (h.2.2.2.2.2.2 y hy)⟩
theorem xF_in {H : Heap} {A : Nat → Prop} {H0 : Heap} (hA : ∀ q, H0.size ≤ q → A q) (h0 : H0.size ≤ H.size) : ∀ q, va_A [] H.size q → A q := by
  rintro q (⟨k, e, h⟩ | h)
  · simp at h
  · exact hA q (Nat.le_trans h0 h)
/-- the words of octet, with those of its throw -/
def wsX4_octetX : List Cond := wsX4_octet ++ (vx_atS RX4 157 "java/lang/ArrayIndexOutOfBoundsException" ["java/lang/IndexOutOfBoundsException", "java/lang/RuntimeException", "java/lang/Exception"]).filter goodWord
def xE2 : List Cond := Cond.classLink RL 21 "java/lang/ArrayIndexOutOfBoundsException" :: (vx_atS RX4 157 "java/lang/ArrayIndexOutOfBoundsException" ["java/lang/IndexOutOfBoundsException", "java/lang/RuntimeException", "java/lang/Exception"]).filter goodWord
def wsL_octetX : List Cond := wsL_octet ++ xE2
set_option maxRecDepth 20000 in
theorem wsX_oc2 : ∀ w ∈ xE2, w ∈ lw_tbl := by decide +kernel
set_option maxRecDepth 20000 in
theorem gwX_oc2 : xE2.all goodWord = true := by decide +kernel
set_option maxRecDepth 20000 in
theorem wsX_oc : ∀ w ∈ (vx_atS RX4 157 "java/lang/ArrayIndexOutOfBoundsException" ["java/lang/IndexOutOfBoundsException", "java/lang/RuntimeException", "java/lang/Exception"]).filter goodWord, w ∈ lw_tbl := by decide +kernel
set_option maxRecDepth 20000 in
theorem gwX_oc : ((vx_atS RX4 157 "java/lang/ArrayIndexOutOfBoundsException" ["java/lang/IndexOutOfBoundsException", "java/lang/RuntimeException", "java/lang/Exception"]).filter goodWord).all goodWord = true := by decide +kernel

set_option maxRecDepth 20000 in
theorem xb_107 : ∀ w ∈ (vx_atS RX4 107 "java/lang/IllegalArgumentException" ["java/lang/RuntimeException", "java/lang/Exception"]).filter (fun w => !goodWord w), w ∈ Cond.castable "java/lang/IllegalArgumentException" "java/lang/IllegalArgumentException" :: xD.map Cond.declares := by decide +kernel
set_option maxRecDepth 20000 in
theorem xg_107 : ∀ w ∈ (vx_atS RX4 107 "java/lang/IllegalArgumentException" ["java/lang/RuntimeException", "java/lang/Exception"]), vx_ot w = true := by decide +kernel

set_option maxRecDepth 20000 in
theorem xb_117 : ∀ w ∈ (vx_atS RX4 117 "java/lang/IllegalStateException" ["java/lang/RuntimeException", "java/lang/Exception"]).filter (fun w => !goodWord w), w ∈ Cond.castable "java/lang/IllegalStateException" "java/lang/IllegalStateException" :: xD.map Cond.declares := by decide +kernel
set_option maxRecDepth 20000 in
theorem xg_117 : ∀ w ∈ (vx_atS RX4 117 "java/lang/IllegalStateException" ["java/lang/RuntimeException", "java/lang/Exception"]), vx_ot w = true := by decide +kernel

set_option maxRecDepth 20000 in
theorem xb_157 : ∀ w ∈ (vx_atS RX4 157 "java/lang/ArrayIndexOutOfBoundsException" ["java/lang/IndexOutOfBoundsException", "java/lang/RuntimeException", "java/lang/Exception"]).filter (fun w => !goodWord w), w ∈ Cond.castable "java/lang/ArrayIndexOutOfBoundsException" "java/lang/ArrayIndexOutOfBoundsException" :: xD.map Cond.declares := by decide +kernel
set_option maxRecDepth 20000 in
theorem xg_157 : ∀ w ∈ (vx_atS RX4 157 "java/lang/ArrayIndexOutOfBoundsException" ["java/lang/IndexOutOfBoundsException", "java/lang/RuntimeException", "java/lang/Exception"]), vx_ot w = true := by decide +kernel

set_option maxHeartbeats 4000000 in
set_option maxRecDepth 100000 in
theorem x_X4_show (l : Launch) (hst : l.stackTraces = false) (dC : Nat → ClassId) (dI : Nat → Nat → Nat) (sz sa1 sa2 sa3 : Nat) (h0 h1 h2 h3 h4 h5 h6 h7 a0 b0 p0 k0 a1 a2 a3 : Nat) (sn sd ft : Int32) (im : Int32) : vx_Met l yX4_show wsX4_show ({ frames := 6, cells := 1, slots := 6, locals := 90 }) (va_Pc [.ref h0, .int im] (fun U => U.heap.size = sz ∧ va_P (dC, dI) vwCl [(h0, .inr (5, [.ref h1, .ref h2, .ref h3, .ref h4, .int sn, .ref h5, .ref h6, .ref h7, .ref a0, .ref b0, .ref p0, .ref k0, .int sd, .int ft])), (a0, .inr (1, [.ref a1, .ref a2, .ref a3, .int 0]))] U.heap ∧ va_K (dC, dI) vwCl [] U ∧ nW U ∧ xW sa1 sa2 sa3 (va_A [] sz) U)) (va_Ql (fun (_ : Int64) (_ : Unit) => False) (fun _ _ => True) (va_A [] sz)) (vx_X (fun _ : Unit => True) (fun E _ _ => E = "java/lang/IllegalArgumentException") (va_A [] sz)) 1 6 (va_A [] sz) := by
  refine vx_ofW (cc := cX4_show) (maxL := 2) (ret := (some .long)) (by decide) rfl ?_
  intro p e s m args below meth c s₁ B hml hnt hv
  obtain ⟨rfl, hsz, hP, hK, hN, hX9⟩ := hv
  have hx := B.exec
  have hb := B.bytes
  have hr := B.returns
  have hts := atoms_spec (ws := wsX4_show) B.pre
  have hown : s.vm.findClass RX4 = some m.cls := findClass_of_methodNamed B.named
  have hlocks := B.notSynchronized
  subst hsz
  generalize hAe : va_A [] s.heap.size = A at hX9 ⊢
  have hA : ∀ q : Nat, s.heap.size ≤ q → A q := fun q h => by rw [← hAe]; exact Or.inr h
  have hS : va_S A s.heap s.heap [] := va_S.rf
  have hxw_107 : ∀ w ∈ (vx_atS RX4 107 "java/lang/IllegalArgumentException" ["java/lang/RuntimeException", "java/lang/Exception"]).filter goodWord, w ∈ wsX4_show := fun _ h => List.mem_cons_of_mem _ (List.mem_append_left _ (List.mem_append_right _ h))
  have hl := lv_entry ([.ref h0, .int im]) (n := 2) (Nat.le_of_ble_eq_true rfl)
  rw [lg_entry_eq]
  generalize (lg_sl ([.ref h0, .int im]) ++ List.replicate (2 - (lg_sl ([.ref h0, .int im])).length) Slot.unset).toArray = ls at hl ⊢
  have hl : lv_has ls 2 [(0, .ref h0), (1, .int im)] := hl
  refine lv_aload_n hx hb dX4_show_0 rfl (lv_at hl 0 rfl) ?_
  refine va_get (D := (dC, dI)) (ci := 5) (v := .ref a0) (C := RX4) (T := TX4) (N := 14) hx hb hts (by decide +kernel) hown hK hP 0 rfl rfl 8 (by decide) (hts (.fieldLink RX4 35 "CobolDebugger" "items" "LCobolDebugger$Items;") (by decide +kernel)) (fun _ h9 => h9) rfl dX4_show_1 ?_
  refine lv_iload_n hx hb dX4_show_4 rfl (lv_at hl 1 rfl) ?_
  have hPc := hP.sub (ws' := [(a0, .inr (1, [.ref a1, .ref a2, .ref a3, .int 0]))]) [1] rfl
  have hKc := hK.sub (tys' := []) [] rfl
  refine va_calli (va_runVN (C := RX0) (As := [.int im]) (rest := []) ⟨hx, hb, hml, hown, hts⟩ (c_X0_has l dC dI a0 a1 a2 a3 0 im) ⟨va_cnB 1 hts gX4_show_X0_has_n86 rfl rfl rfl (nwm hN (RX4, 86, yX0_has, RX4) (by decide +kernel)) (hts (.initialized RX0) (by decide +kernel)) (by decide +kernel) ⟨Nat.le_of_ble_eq_true rfl, Nat.le_of_ble_eq_true rfl⟩, hts (.instanceMethod yX0_has) (by decide +kernel), hts (.selects RX0 yX0_has yX0_has) (by decide +kernel)⟩ ⟨fun a U g mk q => by obtain ⟨q0, qP, qK⟩ := q; exact ⟨q0, qP, va_K.moved (u := U) (U := U.calling g mk a) (Vm.Alike.refl U.vm) qK⟩, va_recv hKc hPc (ci := 1) (q0 := 0) rfl rfl, fun U hU hW => ⟨rfl, by rw [hU]; exact hPc, va_K.moved hW.alike hKc⟩⟩ rfl rfl hl.1 rfl (lv_room (Nat.le_of_ble_eq_true rfl)) dX4_show_5 ⟨Nat.zero_le _, Nat.zero_le _⟩) hS (fun q _ h => h.elim) (fun q h => h.elim) (fun r_5 u t H1 locs ht hvm w_5 hB hz1 hk1 hS => ?_)
  try dsimp only at w_5
  have hP := rd_keep hP hk1
  clear hB hk1 hz1 ht hvm u t
  generalize H1 = H at hP hS ⊢
  have w_5 := z01 w_5
  refine lv_if_ne (tgt := 21) hx hb dX4_show_8 (by decide) (fun c_8 => ?_) (fun c_8 => ?_)
  · exact absurd (w_5.mpr (fr_has im)) c_8
  · have hat : ∀ w ∈ vx_atS RX4 107 "java/lang/IllegalArgumentException" ["java/lang/RuntimeException", "java/lang/Exception"], w.before [.ref h0, .int im].toArray s = true := vx_hat (B := Cond.castable "java/lang/IllegalArgumentException" "java/lang/IllegalArgumentException" :: xD.map Cond.declares) (fun w h => hts w (hxw_107 w h)) xb_107 (vx_c (va_Nw.use rfl (hX9.2.2.2.2.2.1 ("java/lang/IllegalArgumentException", "java/lang/IllegalArgumentException") (by decide +kernel))) (fun w h => by obtain ⟨y, hy, rfl⟩ := List.mem_map.mp h; exact va_Nw.use rfl (hX9.2.2.2.2.2.2 y hy)))
    exact vx_throwS (A := A) (text := "no such item") (names := ["java/lang/RuntimeException", "java/lang/Exception"]) (sa := sa1) hx hb hst hown (by decide +kernel) (by decide +kernel) (hts (.classLink RX4 103 "java/lang/IllegalArgumentException") (by decide +kernel)) (hts (.initialized "java/lang/IllegalArgumentException") (by decide +kernel)) hX9.1 hat (fun w h => by rcases List.mem_cons.mp h with rfl | h; rfl; rcases List.mem_cons.mp h with rfl | h; rfl; exact xg_107 w h) hX9.2.2.2.1 hX9.2.2.2.2.1 hS (by rw [hml]; exact hl.1) dX4_show_11 dX4_show_14 dX4_show_15 dX4_show_17 dX4_show_20 (fun x hx => (hnt x hx).elim) (Nat.le_of_ble_eq_true rfl) (Nat.le_of_ble_eq_true rfl) (Nat.le_of_ble_eq_true rfl) (Nat.le_of_ble_eq_true rfl) hlocks (fun t hv hz hq => ⟨(), trivial, rfl, Nat.le_trans hS.1 hz, fun q h1 h2 => (hq q (Nat.lt_of_lt_of_le h1 hS.1)).trans (hS.2.1 q h1 h2)⟩) hS.2.2 (Nat.le_of_ble_eq_true rfl) (Nat.le_of_ble_eq_true rfl)

set_option maxRecDepth 20000 in
theorem gX4_octetX_X0_has_n86 : GoodIn wsX4_octetX wsX0_has := fun w h => ⟨List.mem_append_left _ (ggX4_octet_X0_has w h).1, (ggX4_octet_X0_has w h).2⟩

set_option maxHeartbeats 4000000 in
set_option maxRecDepth 100000 in
theorem x_X4_octet (l : Launch) (hst : l.stackTraces = false) (dC : Nat → ClassId) (dI : Nat → Nat → Nat) (sz sa1 sa2 sa3 : Nat) (h0 h1 h2 h3 h4 h5 h6 h7 a0 b0 p0 k0 a1 a2 a3 : Nat) (sn sd ft : Int32) (im i : Int32) : vx_Met l yX4_octet wsX4_octetX ({ frames := 7, cells := 1, slots := 6, locals := 110 }) (va_Pc [.ref h0, .int im, .int i] (fun U => U.heap.size = sz ∧ va_P (dC, dI) vwCl [(h0, .inr (5, [.ref h1, .ref h2, .ref h3, .ref h4, .int sn, .ref h5, .ref h6, .ref h7, .ref a0, .ref b0, .ref p0, .ref k0, .int sd, .int ft])), (a0, .inr (1, [.ref a1, .ref a2, .ref a3, .int 0]))] U.heap ∧ va_K (dC, dI) vwCl [] U ∧ nW U ∧ xW sa1 sa2 sa3 (va_A [] sz) U)) (va_Qi (fun (_ : Int32) (_ : Unit) => False) (fun _ _ => True) (va_A [] sz)) (vx_X (fun _ : Unit => True) (fun E _ _ => E = "java/lang/ArrayIndexOutOfBoundsException") (va_A [] sz)) 1 6 (va_A [] sz) := by
  refine vx_ofW (cc := cX4_octet) (maxL := 3) (ret := (some .byte)) (by decide) rfl ?_
  intro p e s m args below meth c s₁ B hml hnt hv
  obtain ⟨rfl, hsz, hP, hK, hN, hX9⟩ := hv
  have hx := B.exec
  have hb := B.bytes
  have hr := B.returns
  have hts := atoms_spec (ws := wsX4_octetX) B.pre
  have hown : s.vm.findClass RX4 = some m.cls := findClass_of_methodNamed B.named
  have hlocks := B.notSynchronized
  subst hsz
  generalize hAe : va_A [] s.heap.size = A at hX9 ⊢
  have hA : ∀ q : Nat, s.heap.size ≤ q → A q := fun q h => by rw [← hAe]; exact Or.inr h
  have hS : va_S A s.heap s.heap [] := va_S.rf
  have hxw_157 : ∀ w ∈ (vx_atS RX4 157 "java/lang/ArrayIndexOutOfBoundsException" ["java/lang/IndexOutOfBoundsException", "java/lang/RuntimeException", "java/lang/Exception"]).filter goodWord, w ∈ wsX4_octetX := fun _ h => List.mem_append_right _ h
  have hl := lv_entry ([.ref h0, .int im, .int i]) (n := 3) (Nat.le_of_ble_eq_true rfl)
  rw [lg_entry_eq]
  generalize (lg_sl ([.ref h0, .int im, .int i]) ++ List.replicate (3 - (lg_sl ([.ref h0, .int im, .int i])).length) Slot.unset).toArray = ls at hl ⊢
  have hl : lv_has ls 3 [(0, .ref h0), (1, .int im), (2, .int i)] := hl
  refine lv_aload_n hx hb dX4_octet_0 rfl (lv_at hl 0 rfl) ?_
  refine va_get (D := (dC, dI)) (ci := 5) (v := .ref a0) (C := RX4) (T := TX4) (N := 14) hx hb hts (by decide +kernel) hown hK hP 0 rfl rfl 8 (by decide) (hts (.fieldLink RX4 35 "CobolDebugger" "items" "LCobolDebugger$Items;") (by decide +kernel)) (fun _ h9 => h9) rfl dX4_octet_1 ?_
  refine lv_iload_n hx hb dX4_octet_4 rfl (lv_at hl 1 rfl) ?_
  have hPc := hP.sub (ws' := [(a0, .inr (1, [.ref a1, .ref a2, .ref a3, .int 0]))]) [1] rfl
  have hKc := hK.sub (tys' := []) [] rfl
  refine va_calli (va_runVN (C := RX0) (As := [.int im]) (rest := []) ⟨hx, hb, hml, hown, hts⟩ (c_X0_has l dC dI a0 a1 a2 a3 0 im) ⟨va_cnB 1 hts gX4_octetX_X0_has_n86 rfl rfl rfl (nwm hN (RX4, 86, yX0_has, RX4) (by decide +kernel)) (hts (.initialized RX0) (by decide +kernel)) (by decide +kernel) ⟨Nat.le_of_ble_eq_true rfl, Nat.le_of_ble_eq_true rfl⟩, hts (.instanceMethod yX0_has) (by decide +kernel), hts (.selects RX0 yX0_has yX0_has) (by decide +kernel)⟩ ⟨fun a U g mk q => by obtain ⟨q0, qP, qK⟩ := q; exact ⟨q0, qP, va_K.moved (u := U) (U := U.calling g mk a) (Vm.Alike.refl U.vm) qK⟩, va_recv hKc hPc (ci := 1) (q0 := 0) rfl rfl, fun U hU hW => ⟨rfl, by rw [hU]; exact hPc, va_K.moved hW.alike hKc⟩⟩ rfl rfl hl.1 rfl (lv_room (Nat.le_of_ble_eq_true rfl)) dX4_octet_5 ⟨Nat.zero_le _, Nat.zero_le _⟩) hS (fun q _ h => h.elim) (fun q h => h.elim) (fun r_5 u t H1 locs ht hvm w_5 hB hz1 hk1 hS => ?_)
  try dsimp only at w_5
  have hP := rd_keep hP hk1
  clear hB hk1 hz1 ht hvm u t
  generalize H1 = H at hP hS ⊢
  have w_5 := z01 w_5
  refine lv_if_eq (tgt := 23) hx hb dX4_octet_8 (by decide) (fun c_8 => ?_) (fun c_8 => ?_)
  · have hat : ∀ w ∈ vx_atS RX4 157 "java/lang/ArrayIndexOutOfBoundsException" ["java/lang/IndexOutOfBoundsException", "java/lang/RuntimeException", "java/lang/Exception"], w.before [.ref h0, .int im, .int i].toArray s = true := vx_hat (B := Cond.castable "java/lang/ArrayIndexOutOfBoundsException" "java/lang/ArrayIndexOutOfBoundsException" :: xD.map Cond.declares) (fun w h => hts w (hxw_157 w h)) xb_157 (vx_c (va_Nw.use rfl (hX9.2.2.2.2.2.1 ("java/lang/ArrayIndexOutOfBoundsException", "java/lang/ArrayIndexOutOfBoundsException") (by decide +kernel))) (fun w h => by obtain ⟨y, hy, rfl⟩ := List.mem_map.mp h; exact va_Nw.use rfl (hX9.2.2.2.2.2.2 y hy)))
    exact vx_throwS (A := A) (text := "no such item or byte") (names := ["java/lang/IndexOutOfBoundsException", "java/lang/RuntimeException", "java/lang/Exception"]) (sa := sa3) hx hb hst hown (by decide +kernel) (by decide +kernel) (hts (.classLink RX4 153 "java/lang/ArrayIndexOutOfBoundsException") (by decide +kernel)) (hts (.initialized "java/lang/ArrayIndexOutOfBoundsException") (by decide +kernel)) hX9.2.2.1 hat (fun w h => by rcases List.mem_cons.mp h with rfl | h; rfl; rcases List.mem_cons.mp h with rfl | h; rfl; exact xg_157 w h) hX9.2.2.2.1 hX9.2.2.2.2.1 hS (by rw [hml]; exact hl.1) dX4_octet_23 dX4_octet_26 dX4_octet_27 dX4_octet_29 dX4_octet_32 (fun x hx => (hnt x hx).elim) (Nat.le_of_ble_eq_true rfl) (Nat.le_of_ble_eq_true rfl) (Nat.le_of_ble_eq_true rfl) (Nat.le_of_ble_eq_true rfl) hlocks (fun t hv hz hq => ⟨(), trivial, rfl, Nat.le_trans hS.1 hz, fun q h1 h2 => (hq q (Nat.lt_of_lt_of_le h1 hS.1)).trans (hS.2.1 q h1 h2)⟩) hS.2.2 (Nat.le_of_ble_eq_true rfl) (Nat.le_of_ble_eq_true rfl)
  · exact absurd (w_5.mpr (fr_has im)) c_8

theorem gL_octetX_X4_octetX : GoodIn wsL_octetX (wsV RL 17 RX4 yX4_octet wsX4_octetX) := by
  intro w h
  rcases List.mem_append.mp h with h | h
  · exact ⟨List.mem_append_left _ (gL_octet_X4_octet w (List.mem_append_left _ h)).1, (gL_octet_X4_octet w (List.mem_append_left _ h)).2⟩
  · rcases List.mem_append.mp h with h | h
    · exact ⟨List.mem_append_left _ (gL_octet_X4_octet w (List.mem_append_right _ h)).1, (gL_octet_X4_octet w (List.mem_append_right _ h)).2⟩
    · exact ⟨List.mem_append_right _ (List.mem_cons_of_mem _ h), good_of_word (List.all_eq_true.mp gwX_oc w h)⟩

set_option maxHeartbeats 4000000 in
set_option maxRecDepth 100000 in
theorem m_L_show (l : Launch) (hst : l.stackTraces = false) (dC : Nat → ClassId) (dI : Nat → Nat → Nat) (sz sa1 sa2 sa3 : Nat) (h0 h1 h2 h3 h4 h5 h6 h7 a0 b0 p0 k0 a1 a2 a3 : Nat) (sn sd ft : Int32) (im : Int32) (ou : Nat) : Met l yL_show wsL_show ({ frames := 7, cells := 1, slots := 6, locals := 111 }) (va_Pc [.ref h0, .int im, .ref ou] (fun U => U.heap.size = sz ∧ va_P (dC, dI) vwCl [(h0, .inr (5, [.ref h1, .ref h2, .ref h3, .ref h4, .int sn, .ref h5, .ref h6, .ref h7, .ref a0, .ref b0, .ref p0, .ref k0, .int sd, .int ft])), (a0, .inr (1, [.ref a1, .ref a2, .ref a3, .int 0]))] U.heap ∧ va_K (dC, dI) vwCl [] U ∧ nW U ∧ xW sa1 sa2 sa3 (va_A [] sz) U)) (va_Qi (fun (r : Int32) (_ : Unit) => r = 1) (fun _ _ => True) (va_A [] sz)) 1 6 (va_A [] sz) := by
  refine va_MetW (cc := cL_show) (maxL := 4) (ret := some .int) (hh := [(0, 8, 11, 13), (0, 8, 14, 15)]) (by decide) rfl ?_
  intro p e s m args below meth c s₁ B hml hv
  obtain ⟨rfl, hsz, hP, hK, hN, hX9⟩ := hv
  have hx := B.exec
  have hb := B.bytes
  have hr := B.returns
  have hts := atoms_spec (ws := wsL_show) B.pre
  have hown : s.vm.findClass RL = some m.cls := findClass_of_methodNamed B.named
  have hlocks := B.notSynchronized
  have htab := vx_table (x := yL_show) B (hts _ List.mem_cons_self)
  subst hsz
  generalize hAe : va_A [] s.heap.size = A at hX9 ⊢
  have hA : ∀ q : Nat, s.heap.size ≤ q → A q := fun q h => by rw [← hAe]; exact Or.inr h
  have hS : va_S A s.heap s.heap [] := va_S.rf
  obtain ⟨H, hH⟩ : ∃ H, H = s.heap := ⟨_, rfl⟩
  have hl := lv_entry ([.ref h0, .int im, .ref ou]) (n := 4) (Nat.le_of_ble_eq_true rfl)
  rw [lg_entry_eq]
  generalize (lg_sl ([.ref h0, .int im, .ref ou]) ++ List.replicate (4 - (lg_sl ([.ref h0, .int im, .ref ou])).length) Slot.unset).toArray = ls at hl ⊢
  have hl : lv_has ls 4 [(0, .ref h0), (1, .int im), (2, .ref ou)] := hl
  refine lv_aload_n hx hb dL_show_0 rfl (lv_at hl 2 rfl) ?_
  refine lv_iconst (v := 0) hx hb dL_show_1 (by decide) ?_
  refine lv_aload_n hx hb dL_show_2 rfl (lv_at hl 0 rfl) ?_
  refine lv_iload_n hx hb dL_show_3 rfl (lv_at hl 1 rfl) ?_
  have hPc := hP.sub (ws' := [(h0, .inr (5, [.ref h1, .ref h2, .ref h3, .ref h4, .int sn, .ref h5, .ref h6, .ref h7, .ref a0, .ref b0, .ref p0, .ref k0, .int sd, .int ft])), (a0, .inr (1, [.ref a1, .ref a2, .ref a3, .int 0]))]) [0, 1] rfl
  have hKc := hK.sub (tys' := []) [] rfl
  have hFc := xF_in (H := s.heap) hA hS.1
  refine vx_calll (vx_runV (As := [.int im]) (rest := [.int 0, .ref ou]) ⟨hx, hb, hml, hown, hts⟩ (x_X4_show l hst dC dI s.heap.size sa1 sa2 sa3 h0 h1 h2 h3 h4 h5 h6 h7 a0 b0 p0 k0 a1 a2 a3 sn sd ft im) (cwV 1 hts gL_show_X4_show rfl rfl rfl (by decide +kernel) ⟨Nat.le_of_ble_eq_true rfl, Nat.le_of_ble_eq_true rfl⟩) ⟨fun a U g mk q => by obtain ⟨q0, q1, qP, qK, qN, qX⟩ := q; exact ⟨q0, q1, qP, va_K.moved (u := U) (U := U.calling g mk a) (Vm.Alike.refl U.vm) qK, nW_same qN, xW_same qX⟩, va_recv hKc hPc (ci := 5) (q0 := 0) rfl rfl, fun U hU hW => ⟨rfl, by rw [hU], by rw [hU]; exact hPc, va_K.moved hW.alike hKc, nW_warm hW hN, xW_in hW hU hS hFc hX9⟩⟩ rfl rfl hl.1 rfl (lv_room (Nat.le_of_ble_eq_true rfl)) dL_show_4 ⟨Nat.le_of_ble_eq_true rfl, Nat.le_of_ble_eq_true rfl⟩) hS (fun q _ h => hFc q h) (fun q h => hFc q h) (fun q _ h => hFc q h) (fun E ce q9 u t H1 locs ht hvm hpx hBX hz1 hk1 hS hcell hcv hcl => ?_) (fun r u t H1 locs ht hvm hw hB hz1 hk1 hS => hw.elim)
  obtain rfl : E = "java/lang/IllegalArgumentException" := hBX
  refine vx_catch (name := "java/lang/IllegalArgumentException") hown [] ⟨0, 8, 11, 13⟩ [⟨0, 8, 14, 15⟩] (htab.trans rfl) (fun z hz => absurd hz List.not_mem_nil) (by decide) (by decide) (hts (.classLink RL 13 "java/lang/IllegalArgumentException") (by decide +kernel)) (va_Nw.use rfl (hX9.2.2.2.2.2.1 ("java/lang/IllegalArgumentException", "java/lang/IllegalArgumentException") (by decide +kernel))) hcell hcv hcl ?_
  refine W.eq (g2 := F0 m 11 ls [.ref q9]) rfl ?_
  refine lv_astore_n (lv' := [(3, .ref q9), (0, .ref h0), (1, .int im), (2, .ref ou)]) hx hb dL_show_11 rfl hl (by decide) rfl (fun ls hl => ?_)
  refine lv_iconst (v := 1) hx hb dL_show_12 (by decide) ?_
  refine W.widen (k := 1) (n := 6) (by omega) (by omega) ?_
  exact W.iret (v := 1) hx hb hr (fun t ht hW => ⟨⟨1, (), rfl, rfl, trivial⟩, hS.F ht⟩) hS.2.2 dL_show_13

set_option maxHeartbeats 4000000 in
set_option maxRecDepth 100000 in
theorem m_L_octet (l : Launch) (hst : l.stackTraces = false) (dC : Nat → ClassId) (dI : Nat → Nat → Nat) (sz sa1 sa2 sa3 : Nat) (h0 h1 h2 h3 h4 h5 h6 h7 a0 b0 p0 k0 a1 a2 a3 : Nat) (sn sd ft : Int32) (im i : Int32) (ou : Nat) : Met l yL_octet wsL_octetX ({ frames := 8, cells := 1, slots := 6, locals := 132 }) (va_Pc [.ref h0, .int im, .int i, .ref ou] (fun U => U.heap.size = sz ∧ va_P (dC, dI) vwCl [(h0, .inr (5, [.ref h1, .ref h2, .ref h3, .ref h4, .int sn, .ref h5, .ref h6, .ref h7, .ref a0, .ref b0, .ref p0, .ref k0, .int sd, .int ft])), (a0, .inr (1, [.ref a1, .ref a2, .ref a3, .int 0]))] U.heap ∧ va_K (dC, dI) vwCl [] U ∧ nW U ∧ xW sa1 sa2 sa3 (va_A [] sz) U)) (va_Qi (fun (r : Int32) (_ : Unit) => r = 1) (fun _ _ => True) (va_A [] sz)) 1 6 (va_A [] sz) := by
  refine va_MetW (cc := cL_octet) (maxL := 5) (ret := some .int) (hh := [(0, 10, 13, 21)]) (by decide) rfl ?_
  intro p e s m args below meth c s₁ B hml hv
  obtain ⟨rfl, hsz, hP, hK, hN, hX9⟩ := hv
  have hx := B.exec
  have hb := B.bytes
  have hr := B.returns
  have hts := atoms_spec (ws := wsL_octetX) B.pre
  have hown : s.vm.findClass RL = some m.cls := findClass_of_methodNamed B.named
  have hlocks := B.notSynchronized
  have htab := vx_table (x := yL_show) B (hts _ List.mem_cons_self)
  subst hsz
  generalize hAe : va_A [] s.heap.size = A at hX9 ⊢
  have hA : ∀ q : Nat, s.heap.size ≤ q → A q := fun q h => by rw [← hAe]; exact Or.inr h
  have hS : va_S A s.heap s.heap [] := va_S.rf
  obtain ⟨H, hH⟩ : ∃ H, H = s.heap := ⟨_, rfl⟩
  have hl := lv_entry ([.ref h0, .int im, .int i, .ref ou]) (n := 5) (Nat.le_of_ble_eq_true rfl)
  rw [lg_entry_eq]
  generalize (lg_sl ([.ref h0, .int im, .int i, .ref ou]) ++ List.replicate (5 - (lg_sl ([.ref h0, .int im, .int i, .ref ou])).length) Slot.unset).toArray = ls at hl ⊢
  have hl : lv_has ls 5 [(0, .ref h0), (1, .int im), (2, .int i), (3, .ref ou)] := hl
  refine lv_aload_n hx hb dL_octet_0 rfl (lv_at hl 3 rfl) ?_
  refine lv_iconst (v := 0) hx hb dL_octet_1 (by decide) ?_
  refine lv_aload_n hx hb dL_octet_2 rfl (lv_at hl 0 rfl) ?_
  refine lv_iload_n hx hb dL_octet_3 rfl (lv_at hl 1 rfl) ?_
  refine lv_iload_n hx hb dL_octet_4 rfl (lv_at hl 2 rfl) ?_
  have hPc := hP.sub (ws' := [(h0, .inr (5, [.ref h1, .ref h2, .ref h3, .ref h4, .int sn, .ref h5, .ref h6, .ref h7, .ref a0, .ref b0, .ref p0, .ref k0, .int sd, .int ft])), (a0, .inr (1, [.ref a1, .ref a2, .ref a3, .int 0]))]) [0, 1] rfl
  have hKc := hK.sub (tys' := []) [] rfl
  have hFc := xF_in (H := s.heap) hA hS.1
  refine vx_calli (vx_runV (As := [.int im, .int i]) (rest := [.int 0, .ref ou]) ⟨hx, hb, hml, hown, hts⟩ (x_X4_octet l hst dC dI s.heap.size sa1 sa2 sa3 h0 h1 h2 h3 h4 h5 h6 h7 a0 b0 p0 k0 a1 a2 a3 sn sd ft im i) (cwV 2 hts gL_octetX_X4_octetX rfl rfl rfl (by decide +kernel) ⟨Nat.le_of_ble_eq_true rfl, Nat.le_of_ble_eq_true rfl⟩) ⟨fun a U g mk q => by obtain ⟨q0, q1, qP, qK, qN, qX⟩ := q; exact ⟨q0, q1, qP, va_K.moved (u := U) (U := U.calling g mk a) (Vm.Alike.refl U.vm) qK, nW_same qN, xW_same qX⟩, va_recv hKc hPc (ci := 5) (q0 := 0) rfl rfl, fun U hU hW => ⟨rfl, by rw [hU], by rw [hU]; exact hPc, va_K.moved hW.alike hKc, nW_warm hW hN, xW_in hW hU hS hFc hX9⟩⟩ rfl rfl hl.1 rfl (lv_room (Nat.le_of_ble_eq_true rfl)) dL_octet_5 ⟨Nat.le_of_ble_eq_true rfl, Nat.le_of_ble_eq_true rfl⟩) hS (fun q _ h => hFc q h) (fun q h => hFc q h) (fun q _ h => hFc q h) (fun E ce q9 u t H1 locs ht hvm hpx hBX hz1 hk1 hS hcell hcv hcl => ?_) (fun r u t H1 locs ht hvm hw hB hz1 hk1 hS => hw.elim)
  obtain rfl : E = "java/lang/ArrayIndexOutOfBoundsException" := hBX
  refine vx_catch (name := "java/lang/ArrayIndexOutOfBoundsException") hown [] ⟨0, 10, 13, 21⟩ [] (htab.trans rfl) (fun z hz => absurd hz List.not_mem_nil) (by decide) (by decide) (hts (.classLink RL 21 "java/lang/ArrayIndexOutOfBoundsException") (by decide +kernel)) (va_Nw.use rfl (hX9.2.2.2.2.2.1 ("java/lang/ArrayIndexOutOfBoundsException", "java/lang/ArrayIndexOutOfBoundsException") (by decide +kernel))) hcell hcv hcl ?_
  refine W.eq (g2 := F0 m 13 ls [.ref q9]) rfl ?_
  refine lv_astore (lv' := [(4, .ref q9), (0, .ref h0), (1, .int im), (2, .int i), (3, .ref ou)]) hx hb dL_octet_13 hl (by decide) rfl (fun ls hl => ?_)
  refine lv_iconst (v := 1) hx hb dL_octet_15 (by decide) ?_
  refine W.widen (k := 1) (n := 6) (by omega) (by omega) ?_
  exact W.iret (v := 1) hx hb hr (fun t ht hW => ⟨⟨1, (), rfl, rfl, trivial⟩, hS.F ht⟩) hS.2.2 dL_octet_16
