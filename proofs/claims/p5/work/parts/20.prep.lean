-- ===== end of PART A; then your names; then what follows =====
/-! THE CLAIM OUT OF ONE WALK OF THE LAW'S BODY. Your part is whole_start (and what it stands on); all else here is the same for every law, but numbers. -/
def R_law : String := "CobolDebuggerLaw"
def lw_P (b : Addr) (xs : List Int32) (args : Array Value) (s : State) : Prop := args = #[.ref b] ∧ s.IntsAt b xs ∧ xs.length ≤ 2560 ∧ (Jvm.Cond.and given_1 narrow_1).before args s = true
def lw_Q (_ : Array Value) (s : State) (o : Outcome) (t : State) : Prop := o = .returned (some (.int 1)) ∧ Framed s o t [] 1074 29868
def lw_Z (below : List Frame) (a : Array Value) (s : State) : State → Prop := fun t => ∃ o, t.status = .running ∧ Ended t below o ∧ lw_Q a s o t
/-- the law's own end, with 1 on the stack, nothing written that was there before, its room as the claim has it -/
theorem lw_ret {p : Program} {l : Launch} {e : Env} {s : State} {m : MethodId} {below : List Frame} {meth : Method} {c : Code} {b : Nat} (hx : p.tables.exec = Jvm.exec) (hb : c.code = code) (hr : meth.sig.returnType = ret) (hlocks : meth.locks = false) {pc : Nat} {H : Heap} {ls : Array Slot} (hdg : decode code pc = .ok (.ireturn, 1)) : W p l e room_1 s m #[Value.ref b] below meth c H [] 1074 29868 (lw_Z below #[Value.ref b] s) (F0 m pc ls [.int 1]) := by
  intro T hT X
  obtain ⟨fs, hret, hrun, hended, hW, hframe⟩ := X.leave (v := some (.int 1)) (hlocks := hlocks) (fun h => by rw [hr] at h; cases h)
  have hmeth' : T.vm.method? m = some meth := X.method'
  refine ⟨T.setFrames fs, ?_, .returned (some (.int 1)), hrun, hended, rfl, ⟨_, rfl⟩, hW, hframe⟩
  jvm_step X.here [X.here.top, hx, hb, hdg, hmeth', hr, ret, narrow_b1]
  (try refine ⟨rfl, ?_⟩); (try refine ⟨rfl, ?_⟩)
  first | (intro acts; rw [hret _ acts rfl rfl rfl]) | rw [hret _ _ rfl rfl rfl]
  exact Steps.refl _
/-- what holds at the law's entry: the machine, the code, the tables' words (any of lw_tbl by 'hts w (by decide +kernel)'), the script of L ints xs at the cell b, what the Statement gives of the start (any of its parts by flat_of_before) -/
def lw_At (p : Program) (s : State) (m : MethodId) (meth : Method) (c : Code) (b L : Nat) (xs : Nat → Int32) : Prop :=
  p.tables.exec = Jvm.exec ∧ c.code = code ∧ meth.sig.returnType = ret ∧ c.maxLocals = 8 ∧ s.vm.findClass R_law = some m.cls ∧ (∀ w ∈ lw_tbl, w.before #[Value.ref b] s = true) ∧ va_X b L xs s s.heap ∧ b < s.heap.size ∧ meth.locks = false ∧ (Jvm.Cond.and given_1 narrow_1).before #[Value.ref b] s = true
set_option maxRecDepth 20000 in
theorem xB_in : ∀ q ∈ xB, Cond.castable q.1 q.2 ∈ lw_tbl := by decide +kernel
set_option maxRecDepth 20000 in
theorem xD_in : ∀ y ∈ xD, Cond.declares y ∈ lw_tbl := by decide +kernel
theorem goodIn_l {a b ws : List Cond} (h : GoodIn a ws) : GoodIn (a ++ b) ws := fun w hw => ⟨List.mem_append_left _ (h w hw).1, (h w hw).2⟩
def wsL_lawX : List Cond := wsL_law ++ xE2
theorem wsL_lawX_in : ∀ w ∈ wsL_lawX, w ∈ lw_tbl := fun w h => (List.mem_append.mp h).elim (wsL_law_in w) (wsX_oc2 w)
theorem gL_law_L_octetX : GoodIn wsL_lawX (va_wsS RL 84 yL_octet wsL_octetX) := by
  intro w h
  rcases List.mem_append.mp h with h | h
  · exact ⟨List.mem_append_left _ (gL_law_L_octet w (List.mem_append_left _ h)).1, (gL_law_L_octet w (List.mem_append_left _ h)).2⟩
  · rcases List.mem_append.mp h with h | h
    · exact ⟨List.mem_append_left _ (gL_law_L_octet w (List.mem_append_right _ h)).1, (gL_law_L_octet w (List.mem_append_right _ h)).2⟩
    · exact ⟨List.mem_append_right _ h, good_of_word (List.all_eq_true.mp gwX_oc2 w h)⟩
theorem ltS_0 {M : Nat → Prop} {r : Int32} (h : ltS M 0 r) : r = 0 := by
  rcases h with ⟨h, -⟩ | ⟨j, h, -⟩
  · exact h
  · exact absurd h (Nat.not_lt_zero _)
section LE
variable {p : Program} {l : Launch} {e : Env} {R : Room} {s : State} {m : MethodId} {args : Array Value} {below : List Frame} {meth : Method} {c : Code} {H : Heap} {locs : List Loc} {cells slots : Nat} {Q : State → Prop} {pc : Nat} {ls : Array Slot} {rest : List Value}
theorem lv_eqi {x y : Int32} (h : x = y) (k : W p l e R s m args below meth c H locs cells slots Q (F0 m pc ls (.int y :: rest))) : W p l e R s m args below meth c H locs cells slots Q (F0 m pc ls (.int x :: rest)) := by rw [h]; exact k
end LE

set_option maxRecDepth 20000 in
theorem nwF_in : ∀ q ∈ nwFs, Cond.fieldLinkNest q.1 q.2.1 q.2.2.1 q.2.2.2.1 q.2.2.2.2.1 q.2.2.2.2.2 ∈ lw_tbl := by decide +kernel
set_option maxRecDepth 20000 in
theorem nwM_in : ∀ q ∈ nwMs, Cond.methodLinkNest q.1 q.2.1 q.2.2.1 q.2.2.2 ∈ lw_tbl := by decide +kernel
theorem nW_of {args : Array Value} {s : State} (hts : ∀ w ∈ lw_tbl, w.before args s = true) : nW s := ⟨fun q hq => va_Nw.of rfl (hts _ (nwF_in q hq)), fun q hq => va_Nw.of rfl (hts _ (nwM_in q hq))⟩
set_option maxRecDepth 20000 in
theorem tnW_of {args : Array Value} {s : State} (A : Nat → Prop) (hA : ∀ a, a < s.heap.size → ¬ A a) (hts : ∀ w ∈ lw_tbl, w.before args s = true) (hgv : (Jvm.Cond.and given_1 narrow_1).before args s = true) : ∃ t, tnW t A s := by
  have hs := flat_of_before _ hgv
  have harr : (Cond.arrayOf (.static "CobolDebugger$Items" "TENS" "[J") .long).before args s = true := hs _ (by decide +kernel)
  have hlen := va_eqt (hs (Cond.eq (.length (.static "CobolDebugger$Items" "TENS" "[J")) (.int 10)) (by decide +kernel))
  obtain ⟨t, ht, hT⟩ := va_Tof (N := 10) (f := fun j => .long (tn_v j)) (A := A) (by decide) harr hlen (fun j hj => by
    rcases (show j = 0 ∨ j = 1 ∨ j = 2 ∨ j = 3 ∨ j = 4 ∨ j = 5 ∨ j = 6 ∨ j = 7 ∨ j = 8 ∨ j = 9 by omega) with rfl | rfl | rfl | rfl | rfl | rfl | rfl | rfl | rfl | rfl
    · exact va_eqtl (hs (Cond.eq (.elem (.static "CobolDebugger$Items" "TENS" "[J") (.int 0)) (.long 1)) (by decide +kernel))
    · exact va_eqtl (hs (Cond.eq (.elem (.static "CobolDebugger$Items" "TENS" "[J") (.int 1)) (.long 10)) (by decide +kernel))
    · exact va_eqtl (hs (Cond.eq (.elem (.static "CobolDebugger$Items" "TENS" "[J") (.int 2)) (.long 100)) (by decide +kernel))
    · exact va_eqtl (hs (Cond.eq (.elem (.static "CobolDebugger$Items" "TENS" "[J") (.int 3)) (.long 1000)) (by decide +kernel))
    · exact va_eqtl (hs (Cond.eq (.elem (.static "CobolDebugger$Items" "TENS" "[J") (.int 4)) (.long 10000)) (by decide +kernel))
    · exact va_eqtl (hs (Cond.eq (.elem (.static "CobolDebugger$Items" "TENS" "[J") (.int 5)) (.long 100000)) (by decide +kernel))
    · exact va_eqtl (hs (Cond.eq (.elem (.static "CobolDebugger$Items" "TENS" "[J") (.int 6)) (.long 1000000)) (by decide +kernel))
    · exact va_eqtl (hs (Cond.eq (.elem (.static "CobolDebugger$Items" "TENS" "[J") (.int 7)) (.long 10000000)) (by decide +kernel))
    · exact va_eqtl (hs (Cond.eq (.elem (.static "CobolDebugger$Items" "TENS" "[J") (.int 8)) (.long 100000000)) (by decide +kernel))
    · exact va_eqtl (hs (Cond.eq (.elem (.static "CobolDebugger$Items" "TENS" "[J") (.int 9)) (.long 1000000000)) (by decide +kernel))) hA
  exact ⟨t, va_Zref (hts (.laysStatic "CobolDebugger$Items" "TENS" "[J") (by decide +kernel)) (hts (.initialized "CobolDebugger$Items") (by decide +kernel)) ht hA, hT⟩
set_option maxRecDepth 20000 in
theorem xW_of {args : Array Value} {s : State} (A : Nat → Prop) (hA : ∀ a, a < s.heap.size → ¬ A a) (hts : ∀ w ∈ lw_tbl, w.before args s = true) (hgv : (Jvm.Cond.and given_1 narrow_1).before args s = true) : ∃ sa1 sa2 sa3, xW sa1 sa2 sa3 A s := by
  have hs := flat_of_before _ hgv
  obtain ⟨a1, _, _, _, h1, -⟩ := Cond.exactly_spec (hs (Cond.exactly (.string "CobolDebugger" 105) "java/lang/String") (by decide +kernel))
  obtain ⟨a2, _, _, _, h2, -⟩ := Cond.exactly_spec (hs (Cond.exactly (.string "CobolDebugger" 115) "java/lang/String") (by decide +kernel))
  obtain ⟨a3, _, _, _, h3, -⟩ := Cond.exactly_spec (hs (Cond.exactly (.string "CobolDebugger" 155) "java/lang/String") (by decide +kernel))
  refine ⟨a1, a2, a3, vk_R.of (hts (.stringRef RX4 105 "no such item") (by decide +kernel)) h1, vk_R.of (hts (.stringRef RX4 115 "a byte of the item is no digit") (by decide +kernel)) h2, vk_R.of (hts (.stringRef RX4 155 "no such item or byte") (by decide +kernel)) h3, ?_, ?_, ?_, ?_⟩
  · exact vx_Zqof (hts _ (by decide +kernel)) (hts (.initialized "java/lang/Throwable") (by decide +kernel)) (hs _ (by decide +kernel)) hA
  · exact vx_Zqof (hts _ (by decide +kernel)) (hts (.initialized "java/lang/Throwable") (by decide +kernel)) (hs _ (by decide +kernel)) hA
  · exact fun q hq => va_Nw.of rfl (hts _ (xB_in q hq))
  · exact fun y hy => va_Nw.of rfl (hts _ (xD_in y hy))

set_option maxHeartbeats 4000000 in
set_option maxRecDepth 100000 in
theorem g_X4_caught (l : Launch) (dC : Nat → ClassId) (dI : Nat → Nat → Nat) (h0 h1 h2 h3 h4 h5 h6 h7 a0 b0 p0 k0 b1 b2 b3 : Nat) (kb1 kb2 kb3 : ClassId) (kd of cd : Nat → Int32) (sn sd ft sm : Int32) (co : Int32) (te : Int32) (hsm0 : 0 ≤ sm.toInt) (hsm1 : sm.toInt ≤ 20) : Met l yX4_caught wsX4_caught ({ frames := 1, cells := 0, slots := 0, locals := 23 }) (va_Pc [.ref h0, .int co, .int te] (fun U => va_P (dC, dI) vwCl [(h0, .inr (5, [.ref h1, .ref h2, .ref h3, .ref h4, .int sn, .ref h5, .ref h6, .ref h7, .ref a0, .ref b0, .ref p0, .ref k0, .int sd, .int ft])), (b0, .inr (4, [.ref b1, .ref b2, .ref b3, .int sm])), (b1, .inl (kb1, 20, .inl kd)), (b2, .inl (kb2, 20, .inl of)), (b3, .inl (kb3, 20, .inl cd))] U.heap ∧ va_K (dC, dI) vwCl [(kb1, .int), (kb2, .int), (kb3, .int)] U ∧ nW U)) (va_Qi (fun (r : Int32) (_ : Unit) => ltS (fun j => kd j = 4 ∧ of j = co ∧ cd j = te) sm.toInt.toNat r) (fun _ _ => True) (fun _ => False)) 0 0 (fun _ => False) := by
  obtain ⟨n, hn⟩ : ∃ n : Nat, n = sm.toInt.toNat := ⟨_, rfl⟩
  have e : sm = nI n := Int32.toInt_inj.mp (by rw [nI_toInt (by omega)]; omega)
  have h := c_X4_caught l dC dI h0 h1 h2 h3 h4 h5 h6 h7 a0 b0 p0 k0 b1 b2 b3 kb1 kb2 kb3 kd of cd sn sd ft n co te (by omega)
  rw [← hn, e]
  exact h

theorem xF_no {H : Heap} {q : Nat} (h : q < H.size) : ¬ va_A [] H.size q := by
  rintro (⟨k, e, g⟩ | g)
  · simp at g
  · exact absurd h (Nat.not_lt.mpr g)

set_option maxHeartbeats 4000000 in
set_option maxRecDepth 100000 in
theorem n_L_show (l : Launch) (hst : l.stackTraces = false) (dC : Nat → ClassId) (dI : Nat → Nat → Nat) (sz sa1 sa2 sa3 : Nat) (h0 h1 h2 h3 h4 h5 h6 h7 a0 b0 p0 k0 a1 a2 a3 ou : Nat) (ka1 ka2 ka3 kou : ClassId) (us ss bs : Nat → Int32) (ov : Nat → Int64) (sn sd ft md : Int32) (im : Int32) (hit : itI md ss) (hfb : fitB bs) : Met l yL_show wsL_show ({ frames := 7, cells := 1, slots := 6, locals := 111 }) (va_Pc [.ref h0, .int im, .ref ou] (fun U => U.heap.size = sz ∧ va_P (dC, dI) vwCl [(h0, .inr (5, [.ref h1, .ref h2, .ref h3, .ref h4, .int sn, .ref h5, .ref h6, .ref h7, .ref a0, .ref b0, .ref p0, .ref k0, .int sd, .int ft])), (a0, .inr (1, [.ref a1, .ref a2, .ref a3, .int md])), (a1, .inl (ka1, 30, .inl us)), (a2, .inl (ka2, 30, .inl ss)), (a3, .inl (ka3, 270, .inl bs)), (ou, .inl (kou, 1, .inr (.inl ov)))] U.heap ∧ va_K (dC, dI) vwCl [(ka1, .int), (ka2, .int), (ka3, .byte), (kou, .long)] U ∧ va_D (fun _ => True) [(h0, .inr (5, [.ref h1, .ref h2, .ref h3, .ref h4, .int sn, .ref h5, .ref h6, .ref h7, .ref a0, .ref b0, .ref p0, .ref k0, .int sd, .int ft])), (a0, .inr (1, [.ref a1, .ref a2, .ref a3, .int md])), (a1, .inl (ka1, 30, .inl us)), (a2, .inl (ka2, 30, .inl ss)), (a3, .inl (ka3, 270, .inl bs)), (ou, .inl (kou, 1, .inr (.inl ov)))] ∧ nW U ∧ xW sa1 sa2 sa3 (va_A [(h0, .inr (5, [.ref h1, .ref h2, .ref h3, .ref h4, .int sn, .ref h5, .ref h6, .ref h7, .ref a0, .ref b0, .ref p0, .ref k0, .int sd, .int ft])), (a0, .inr (1, [.ref a1, .ref a2, .ref a3, .int md])), (a1, .inl (ka1, 30, .inl us)), (a2, .inl (ka2, 30, .inl ss)), (a3, .inl (ka3, 270, .inl bs)), (ou, .inl (kou, 1, .inr (.inl ov)))] sz) U ∧ va_Nc "java/lang/IllegalStateException" "java/lang/IllegalArgumentException" U)) (va_Qi (fun (_ : Int32) (_ : Nat → Int64) => True) (fun (u : Nat → Int64) (t : State) => va_P (dC, dI) vwCl [(h0, .inr (5, [.ref h1, .ref h2, .ref h3, .ref h4, .int sn, .ref h5, .ref h6, .ref h7, .ref a0, .ref b0, .ref p0, .ref k0, .int sd, .int ft])), (a0, .inr (1, [.ref a1, .ref a2, .ref a3, .int md])), (a1, .inl (ka1, 30, .inl us)), (a2, .inl (ka2, 30, .inl ss)), (a3, .inl (ka3, 270, .inl bs)), (ou, .inl (kou, 1, .inr (.inl u)))] t.heap ∧ va_D (va_A [(h0, .inr (5, [.ref h1, .ref h2, .ref h3, .ref h4, .int sn, .ref h5, .ref h6, .ref h7, .ref a0, .ref b0, .ref p0, .ref k0, .int sd, .int ft])), (a0, .inr (1, [.ref a1, .ref a2, .ref a3, .int md])), (a1, .inl (ka1, 30, .inl us)), (a2, .inl (ka2, 30, .inl ss)), (a3, .inl (ka3, 270, .inl bs)), (ou, .inl (kou, 1, .inr (.inl ov)))] sz) [(h0, .inr (5, [.ref h1, .ref h2, .ref h3, .ref h4, .int sn, .ref h5, .ref h6, .ref h7, .ref a0, .ref b0, .ref p0, .ref k0, .int sd, .int ft])), (a0, .inr (1, [.ref a1, .ref a2, .ref a3, .int md])), (a1, .inl (ka1, 30, .inl us)), (a2, .inl (ka2, 30, .inl ss)), (a3, .inl (ka3, 270, .inl bs)), (ou, .inl (kou, 1, .inr (.inl u)))]) (va_A [(h0, .inr (5, [.ref h1, .ref h2, .ref h3, .ref h4, .int sn, .ref h5, .ref h6, .ref h7, .ref a0, .ref b0, .ref p0, .ref k0, .int sd, .int ft])), (a0, .inr (1, [.ref a1, .ref a2, .ref a3, .int md])), (a1, .inl (ka1, 30, .inl us)), (a2, .inl (ka2, 30, .inl ss)), (a3, .inl (ka3, 270, .inl bs)), (ou, .inl (kou, 1, .inr (.inl ov)))] sz)) 1 6 (va_A [(h0, .inr (5, [.ref h1, .ref h2, .ref h3, .ref h4, .int sn, .ref h5, .ref h6, .ref h7, .ref a0, .ref b0, .ref p0, .ref k0, .int sd, .int ft])), (a0, .inr (1, [.ref a1, .ref a2, .ref a3, .int md])), (a1, .inl (ka1, 30, .inl us)), (a2, .inl (ka2, 30, .inl ss)), (a3, .inl (ka3, 270, .inl bs)), (ou, .inl (kou, 1, .inr (.inl ov)))] sz) := by
  refine va_MetW (cc := cL_show) (maxL := 4) (ret := some .int) (hh := [(0, 8, 11, 13), (0, 8, 14, 15)]) (by decide) rfl ?_
  intro p e s m args below meth c s₁ B hml hv
  obtain ⟨rfl, hsz, hP, hK, hD0, hN, hX9, hNc⟩ := hv
  have hx := B.exec
  have hb := B.bytes
  have hr := B.returns
  have hts := atoms_spec (ws := wsL_show) B.pre
  have hown : s.vm.findClass RL = some m.cls := findClass_of_methodNamed B.named
  have hlocks := B.notSynchronized
  have htab := vx_table (x := yL_show) B (hts _ List.mem_cons_self)
  subst hsz
  have hD := hD0.self (sz := s.heap.size)
  generalize hAe : va_A [(h0, .inr (5, [.ref h1, .ref h2, .ref h3, .ref h4, .int sn, .ref h5, .ref h6, .ref h7, .ref a0, .ref b0, .ref p0, .ref k0, .int sd, .int ft])), (a0, .inr (1, [.ref a1, .ref a2, .ref a3, .int md])), (a1, .inl (ka1, 30, .inl us)), (a2, .inl (ka2, 30, .inl ss)), (a3, .inl (ka3, 270, .inl bs)), (ou, .inl (kou, 1, .inr (.inl ov)))] s.heap.size = A at hD hX9 ⊢
  have hA : ∀ q : Nat, s.heap.size ≤ q → A q := fun q h => by rw [← hAe]; exact Or.inr h
  have hS : va_S A s.heap s.heap [] := va_S.rf
  have hl := lv_entry ([.ref h0, .int im, .ref ou]) (n := 4) (Nat.le_of_ble_eq_true rfl)
  rw [lg_entry_eq]
  generalize (lg_sl ([.ref h0, .int im, .ref ou]) ++ List.replicate (4 - (lg_sl ([.ref h0, .int im, .ref ou])).length) Slot.unset).toArray = ls at hl ⊢
  have hl : lv_has ls 4 [(0, .ref h0), (1, .int im), (2, .ref ou)] := hl
  refine lv_aload_n hx hb dL_show_0 rfl (lv_at hl 2 rfl) ?_
  refine lv_iconst (v := 0) hx hb dL_show_1 (by decide) ?_
  refine lv_aload_n hx hb dL_show_2 rfl (lv_at hl 0 rfl) ?_
  refine lv_iload_n hx hb dL_show_3 rfl (lv_at hl 1 rfl) ?_
  have hPc := hP.sub (ws' := [(h0, .inr (5, [.ref h1, .ref h2, .ref h3, .ref h4, .int sn, .ref h5, .ref h6, .ref h7, .ref a0, .ref b0, .ref p0, .ref k0, .int sd, .int ft])), (a0, .inr (1, [.ref a1, .ref a2, .ref a3, .int md])), (a1, .inl (ka1, 30, .inl us)), (a2, .inl (ka2, 30, .inl ss)), (a3, .inl (ka3, 270, .inl bs))]) [0, 1, 2, 3, 4] rfl
  have hKc := hK.sub (tys' := [(ka1, .int), (ka2, .int), (ka3, .byte)]) [0, 1, 2] rfl
  have hFc := xF_in (H := s.heap) hA hS.1
  refine vx_calll (vx_runV (As := [.int im]) (rest := [.int 0, .ref ou]) ⟨hx, hb, hml, hown, hts⟩ (y_X4_show l hst dC dI s.heap.size sa1 sa2 sa3 h0 h1 h2 h3 h4 h5 h6 h7 a0 b0 p0 k0 a1 a2 a3 ka1 ka2 ka3 us ss bs sn sd ft md im hit hfb) (cwV 1 hts gL_show_X4_show rfl rfl rfl (by decide +kernel) ⟨Nat.le_of_ble_eq_true rfl, Nat.le_of_ble_eq_true rfl⟩) ⟨fun a U g mk q => by obtain ⟨q0, q1, qP, qK, qN, qX⟩ := q; exact ⟨q0, q1, qP, va_K.moved (u := U) (U := U.calling g mk a) (Vm.Alike.refl U.vm) qK, nW_same qN, xW_same qX⟩, va_recv hKc hPc (ci := 5) (q0 := 0) rfl rfl, fun U hU hW => ⟨rfl, by rw [hU], by rw [hU]; exact hPc, va_K.moved hW.alike hKc, nW_warm hW hN, xW_in hW hU hS hFc hX9⟩⟩ rfl rfl hl.1 rfl (lv_room (Nat.le_of_ble_eq_true rfl)) dL_show_4 ⟨Nat.le_of_ble_eq_true rfl, Nat.le_of_ble_eq_true rfl⟩) hS (fun q _ h => hFc q h) (fun q h => hFc q h) (fun q _ h => hFc q h) (fun E ce q9 u t H1 locs ht hvm hpx hBX hz1 hk1 hS hcell hcv hcl => ?_) (fun r u t H1 locs ht hvm hw hB hz1 hk1 hS => ?_)
  · have hP := hP.kept (fun k q hk => hk1 q.1 (vx_lt hP hk) (xF_no (vx_lt hP hk)))
    rcases hBX with rfl | rfl
    · refine vx_catch (name := "java/lang/IllegalArgumentException") hown [] ⟨0, 8, 11, 13⟩ [⟨0, 8, 14, 15⟩] (htab.trans rfl) (fun z hz => absurd hz List.not_mem_nil) (by decide) (by decide) (hts (.classLink RL 13 "java/lang/IllegalArgumentException") (by decide +kernel)) (va_Nw.use rfl (hX9.2.2.2.2.2.1 ("java/lang/IllegalArgumentException", "java/lang/IllegalArgumentException") (by decide +kernel))) hcell hcv hcl ?_
      refine W.eq (g2 := F0 m 11 ls [.ref q9]) rfl ?_
      refine lv_astore_n (lv' := [(3, .ref q9), (0, .ref h0), (1, .int im), (2, .ref ou)]) hx hb dL_show_11 rfl hl (by decide) rfl (fun ls hl => ?_)
      refine lv_iconst (v := 1) hx hb dL_show_12 (by decide) ?_
      refine W.widen (k := 1) (n := 6) (by omega) (by omega) ?_
      exact W.iret (v := 1) hx hb hr (fun t ht hW => ⟨⟨1, ov, rfl, trivial, by rw [ht]; exact hP, hD⟩, hS.F ht⟩) hS.2.2 dL_show_13
    · refine vx_catch (name := "java/lang/IllegalStateException") hown [⟨0, 8, 11, 13⟩] ⟨0, 8, 14, 15⟩ [] (htab.trans rfl) (fun z hz => by rcases List.mem_singleton.mp hz with rfl; exact Or.inr ⟨by decide, "java/lang/IllegalArgumentException", hts (.classLink RL 13 "java/lang/IllegalArgumentException") (by decide +kernel), hNc⟩) (by decide) (by decide) (hts (.classLink RL 15 "java/lang/IllegalStateException") (by decide +kernel)) (va_Nw.use rfl (hX9.2.2.2.2.2.1 ("java/lang/IllegalStateException", "java/lang/IllegalStateException") (by decide +kernel))) hcell hcv hcl ?_
      refine W.eq (g2 := F0 m 14 ls [.ref q9]) rfl ?_
      refine lv_astore_n (lv' := [(3, .ref q9), (0, .ref h0), (1, .int im), (2, .ref ou)]) hx hb dL_show_14 rfl hl (by decide) rfl (fun ls hl => ?_)
      refine lv_iconst (v := 2) hx hb dL_show_15 (by decide) ?_
      refine W.widen (k := 1) (n := 6) (by omega) (by omega) ?_
      exact W.iret (v := 2) hx hb hr (fun t ht hW => ⟨⟨2, ov, rfl, trivial, by rw [ht]; exact hP, hD⟩, hS.F ht⟩) hS.2.2 dL_show_16
  · have hP := hP.kept (fun k q hk => hk1 q.1 (vx_lt hP hk) (xF_no (vx_lt hP hk)))
    refine va_last hx hb hK hP hD hS 5 3 rfl rfl (i := 0) (by unfold vp_in; decide) dL_show_7 (fun H locs hP hD hS => ?_)
    refine lv_goto (tgt := 17) hx hb dL_show_8 (by decide) ?_
    refine lv_iconst (v := 0) hx hb dL_show_17 (by decide) ?_
    refine W.widen (k := 1) (n := 6) (by omega) (by omega) ?_
    exact W.iret (v := 0) hx hb hr (fun t ht hW => ⟨⟨0, vp_updL ov (0 : Int32).toNatClampNeg r, rfl, trivial, by rw [ht]; exact hP, hD⟩, hS.F ht⟩) hS.2.2 dL_show_18

set_option maxHeartbeats 4000000 in
set_option maxRecDepth 100000 in
theorem n_L_octet (l : Launch) (hst : l.stackTraces = false) (dC : Nat → ClassId) (dI : Nat → Nat → Nat) (sz sa1 sa2 sa3 : Nat) (h0 h1 h2 h3 h4 h5 h6 h7 a0 b0 p0 k0 a1 a2 a3 ou : Nat) (ka1 ka2 ka3 kou : ClassId) (us ss bs : Nat → Int32) (ov : Nat → Int64) (sn sd ft md : Int32) (im i : Int32) (hit : itI md ss) (hfb : fitB bs) : Met l yL_octet wsL_octetX ({ frames := 8, cells := 1, slots := 6, locals := 132 }) (va_Pc [.ref h0, .int im, .int i, .ref ou] (fun U => U.heap.size = sz ∧ va_P (dC, dI) vwCl [(h0, .inr (5, [.ref h1, .ref h2, .ref h3, .ref h4, .int sn, .ref h5, .ref h6, .ref h7, .ref a0, .ref b0, .ref p0, .ref k0, .int sd, .int ft])), (a0, .inr (1, [.ref a1, .ref a2, .ref a3, .int md])), (a1, .inl (ka1, 30, .inl us)), (a2, .inl (ka2, 30, .inl ss)), (a3, .inl (ka3, 270, .inl bs)), (ou, .inl (kou, 1, .inr (.inl ov)))] U.heap ∧ va_K (dC, dI) vwCl [(ka1, .int), (ka2, .int), (ka3, .byte), (kou, .long)] U ∧ va_D (fun _ => True) [(h0, .inr (5, [.ref h1, .ref h2, .ref h3, .ref h4, .int sn, .ref h5, .ref h6, .ref h7, .ref a0, .ref b0, .ref p0, .ref k0, .int sd, .int ft])), (a0, .inr (1, [.ref a1, .ref a2, .ref a3, .int md])), (a1, .inl (ka1, 30, .inl us)), (a2, .inl (ka2, 30, .inl ss)), (a3, .inl (ka3, 270, .inl bs)), (ou, .inl (kou, 1, .inr (.inl ov)))] ∧ nW U ∧ xW sa1 sa2 sa3 (va_A [(h0, .inr (5, [.ref h1, .ref h2, .ref h3, .ref h4, .int sn, .ref h5, .ref h6, .ref h7, .ref a0, .ref b0, .ref p0, .ref k0, .int sd, .int ft])), (a0, .inr (1, [.ref a1, .ref a2, .ref a3, .int md])), (a1, .inl (ka1, 30, .inl us)), (a2, .inl (ka2, 30, .inl ss)), (a3, .inl (ka3, 270, .inl bs)), (ou, .inl (kou, 1, .inr (.inl ov)))] sz) U ∧ va_Nc "java/lang/IllegalStateException" "java/lang/IllegalArgumentException" U)) (va_Qi (fun (_ : Int32) (_ : Nat → Int64) => True) (fun (u : Nat → Int64) (t : State) => va_P (dC, dI) vwCl [(h0, .inr (5, [.ref h1, .ref h2, .ref h3, .ref h4, .int sn, .ref h5, .ref h6, .ref h7, .ref a0, .ref b0, .ref p0, .ref k0, .int sd, .int ft])), (a0, .inr (1, [.ref a1, .ref a2, .ref a3, .int md])), (a1, .inl (ka1, 30, .inl us)), (a2, .inl (ka2, 30, .inl ss)), (a3, .inl (ka3, 270, .inl bs)), (ou, .inl (kou, 1, .inr (.inl u)))] t.heap ∧ va_D (va_A [(h0, .inr (5, [.ref h1, .ref h2, .ref h3, .ref h4, .int sn, .ref h5, .ref h6, .ref h7, .ref a0, .ref b0, .ref p0, .ref k0, .int sd, .int ft])), (a0, .inr (1, [.ref a1, .ref a2, .ref a3, .int md])), (a1, .inl (ka1, 30, .inl us)), (a2, .inl (ka2, 30, .inl ss)), (a3, .inl (ka3, 270, .inl bs)), (ou, .inl (kou, 1, .inr (.inl ov)))] sz) [(h0, .inr (5, [.ref h1, .ref h2, .ref h3, .ref h4, .int sn, .ref h5, .ref h6, .ref h7, .ref a0, .ref b0, .ref p0, .ref k0, .int sd, .int ft])), (a0, .inr (1, [.ref a1, .ref a2, .ref a3, .int md])), (a1, .inl (ka1, 30, .inl us)), (a2, .inl (ka2, 30, .inl ss)), (a3, .inl (ka3, 270, .inl bs)), (ou, .inl (kou, 1, .inr (.inl u)))]) (va_A [(h0, .inr (5, [.ref h1, .ref h2, .ref h3, .ref h4, .int sn, .ref h5, .ref h6, .ref h7, .ref a0, .ref b0, .ref p0, .ref k0, .int sd, .int ft])), (a0, .inr (1, [.ref a1, .ref a2, .ref a3, .int md])), (a1, .inl (ka1, 30, .inl us)), (a2, .inl (ka2, 30, .inl ss)), (a3, .inl (ka3, 270, .inl bs)), (ou, .inl (kou, 1, .inr (.inl ov)))] sz)) 1 6 (va_A [(h0, .inr (5, [.ref h1, .ref h2, .ref h3, .ref h4, .int sn, .ref h5, .ref h6, .ref h7, .ref a0, .ref b0, .ref p0, .ref k0, .int sd, .int ft])), (a0, .inr (1, [.ref a1, .ref a2, .ref a3, .int md])), (a1, .inl (ka1, 30, .inl us)), (a2, .inl (ka2, 30, .inl ss)), (a3, .inl (ka3, 270, .inl bs)), (ou, .inl (kou, 1, .inr (.inl ov)))] sz) := by
  refine va_MetW (cc := cL_octet) (maxL := 5) (ret := some .int) (hh := [(0, 10, 13, 21)]) (by decide) rfl ?_
  intro p e s m args below meth c s₁ B hml hv
  obtain ⟨rfl, hsz, hP, hK, hD0, hN, hX9, hNc⟩ := hv
  have hx := B.exec
  have hb := B.bytes
  have hr := B.returns
  have hts := atoms_spec (ws := wsL_octetX) B.pre
  have hown : s.vm.findClass RL = some m.cls := findClass_of_methodNamed B.named
  have hlocks := B.notSynchronized
  have htab := vx_table (x := yL_show) B (hts _ List.mem_cons_self)
  subst hsz
  have hD := hD0.self (sz := s.heap.size)
  generalize hAe : va_A [(h0, .inr (5, [.ref h1, .ref h2, .ref h3, .ref h4, .int sn, .ref h5, .ref h6, .ref h7, .ref a0, .ref b0, .ref p0, .ref k0, .int sd, .int ft])), (a0, .inr (1, [.ref a1, .ref a2, .ref a3, .int md])), (a1, .inl (ka1, 30, .inl us)), (a2, .inl (ka2, 30, .inl ss)), (a3, .inl (ka3, 270, .inl bs)), (ou, .inl (kou, 1, .inr (.inl ov)))] s.heap.size = A at hD hX9 ⊢
  have hA : ∀ q : Nat, s.heap.size ≤ q → A q := fun q h => by rw [← hAe]; exact Or.inr h
  have hS : va_S A s.heap s.heap [] := va_S.rf
  have hl := lv_entry ([.ref h0, .int im, .int i, .ref ou]) (n := 5) (Nat.le_of_ble_eq_true rfl)
  rw [lg_entry_eq]
  generalize (lg_sl ([.ref h0, .int im, .int i, .ref ou]) ++ List.replicate (5 - (lg_sl ([.ref h0, .int im, .int i, .ref ou])).length) Slot.unset).toArray = ls at hl ⊢
  have hl : lv_has ls 5 [(0, .ref h0), (1, .int im), (2, .int i), (3, .ref ou)] := hl
  refine lv_aload_n hx hb dL_octet_0 rfl (lv_at hl 3 rfl) ?_
  refine lv_iconst (v := 0) hx hb dL_octet_1 (by decide) ?_
  refine lv_aload_n hx hb dL_octet_2 rfl (lv_at hl 0 rfl) ?_
  refine lv_iload_n hx hb dL_octet_3 rfl (lv_at hl 1 rfl) ?_
  refine lv_iload_n hx hb dL_octet_4 rfl (lv_at hl 2 rfl) ?_
  have hPc := hP.sub (ws' := [(h0, .inr (5, [.ref h1, .ref h2, .ref h3, .ref h4, .int sn, .ref h5, .ref h6, .ref h7, .ref a0, .ref b0, .ref p0, .ref k0, .int sd, .int ft])), (a0, .inr (1, [.ref a1, .ref a2, .ref a3, .int md])), (a1, .inl (ka1, 30, .inl us)), (a2, .inl (ka2, 30, .inl ss)), (a3, .inl (ka3, 270, .inl bs))]) [0, 1, 2, 3, 4] rfl
  have hKc := hK.sub (tys' := [(ka1, .int), (ka2, .int), (ka3, .byte)]) [0, 1, 2] rfl
  have hFc := xF_in (H := s.heap) hA hS.1
  refine vx_calli (vx_runV (As := [.int im, .int i]) (rest := [.int 0, .ref ou]) ⟨hx, hb, hml, hown, hts⟩ (y_X4_octet l hst dC dI s.heap.size sa1 sa2 sa3 h0 h1 h2 h3 h4 h5 h6 h7 a0 b0 p0 k0 a1 a2 a3 ka1 ka2 ka3 us ss bs sn sd ft md im i hit hfb) (cwV 2 hts gL_octetX_X4_octetX rfl rfl rfl (by decide +kernel) ⟨Nat.le_of_ble_eq_true rfl, Nat.le_of_ble_eq_true rfl⟩) ⟨fun a U g mk q => by obtain ⟨q0, q1, qP, qK, qN, qX⟩ := q; exact ⟨q0, q1, qP, va_K.moved (u := U) (U := U.calling g mk a) (Vm.Alike.refl U.vm) qK, nW_same qN, xW_same qX⟩, va_recv hKc hPc (ci := 5) (q0 := 0) rfl rfl, fun U hU hW => ⟨rfl, by rw [hU], by rw [hU]; exact hPc, va_K.moved hW.alike hKc, nW_warm hW hN, xW_in hW hU hS hFc hX9⟩⟩ rfl rfl hl.1 rfl (lv_room (Nat.le_of_ble_eq_true rfl)) dL_octet_5 ⟨Nat.le_of_ble_eq_true rfl, Nat.le_of_ble_eq_true rfl⟩) hS (fun q _ h => hFc q h) (fun q h => hFc q h) (fun q _ h => hFc q h) (fun E ce q9 u t H1 locs ht hvm hpx hBX hz1 hk1 hS hcell hcv hcl => ?_) (fun r u t H1 locs ht hvm hw hB hz1 hk1 hS => ?_)
  · have hP := hP.kept (fun k q hk => hk1 q.1 (vx_lt hP hk) (xF_no (vx_lt hP hk)))
    obtain rfl : E = "java/lang/ArrayIndexOutOfBoundsException" := hBX
    refine vx_catch (name := "java/lang/ArrayIndexOutOfBoundsException") hown [] ⟨0, 10, 13, 21⟩ [] (htab.trans rfl) (fun z hz => absurd hz List.not_mem_nil) (by decide) (by decide) (hts (.classLink RL 21 "java/lang/ArrayIndexOutOfBoundsException") (by decide +kernel)) (va_Nw.use rfl (hX9.2.2.2.2.2.1 ("java/lang/ArrayIndexOutOfBoundsException", "java/lang/ArrayIndexOutOfBoundsException") (by decide +kernel))) hcell hcv hcl ?_
    refine W.eq (g2 := F0 m 13 ls [.ref q9]) rfl ?_
    refine lv_astore (lv' := [(4, .ref q9), (0, .ref h0), (1, .int im), (2, .int i), (3, .ref ou)]) hx hb dL_octet_13 hl (by decide) rfl (fun ls hl => ?_)
    refine lv_iconst (v := 1) hx hb dL_octet_15 (by decide) ?_
    refine W.widen (k := 1) (n := 6) (by omega) (by omega) ?_
    exact W.iret (v := 1) hx hb hr (fun t ht hW => ⟨⟨1, ov, rfl, trivial, by rw [ht]; exact hP, hD⟩, hS.F ht⟩) hS.2.2 dL_octet_16
  · have hP := hP.kept (fun k q hk => hk1 q.1 (vx_lt hP hk) (xF_no (vx_lt hP hk)))
    refine lv_i2l hx hb dL_octet_8 rfl ?_
    refine va_last hx hb hK hP hD hS 5 3 rfl rfl (i := 0) (by unfold vp_in; decide) dL_octet_9 (fun H locs hP hD hS => ?_)
    refine lv_goto (tgt := 17) hx hb dL_octet_10 (by decide) ?_
    refine lv_iconst (v := 0) hx hb dL_octet_17 (by decide) ?_
    refine W.widen (k := 1) (n := 6) (by omega) (by omega) ?_
    exact W.iret (v := 0) hx hb hr (fun t ht hW => ⟨⟨0, vp_updL ov (0 : Int32).toNatClampNeg r.toInt64, rfl, trivial, by rw [ht]; exact hP, hD⟩, hS.F ht⟩) hS.2.2 dL_octet_18
