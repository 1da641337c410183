-- ===== end of PART A; then your names; then what follows =====
/-! THE CLAIM OUT OF ONE WALK OF THE LAW'S BODY. Your part is whole_start (and what it stands on); all else here is the same for every law, but numbers. -/
def R_law : String := "CobolDebuggerLaw"
def lw_P (b : Addr) (xs : List Int32) (args : Array Value) (s : State) : Prop := args = #[.ref b] ∧ s.IntsAt b xs ∧ xs.length ≤ 5 ∧ (Jvm.Cond.and given_1 narrow_1).before args s = true
def lw_Q (_ : Array Value) (s : State) (o : Outcome) (t : State) : Prop := o = .returned (some (.int 1)) ∧ Framed s o t [] 52 21692
def lw_Z (below : List Frame) (a : Array Value) (s : State) : State → Prop := fun t => ∃ o, t.status = .running ∧ Ended t below o ∧ lw_Q a s o t
/-- the law's own end, with 1 on the stack, nothing written that was there before, its room as the claim has it -/
theorem lw_ret {p : Program} {l : Launch} {e : Env} {s : State} {m : MethodId} {below : List Frame} {meth : Method} {c : Code} {b : Nat} (hx : p.tables.exec = Jvm.exec) (hb : c.code = code) (hr : meth.sig.returnType = ret) (hlocks : meth.locks = false) {pc : Nat} {H : Heap} {ls : Array Slot} (hdg : decode code pc = .ok (.ireturn, 1)) : W p l e room_1 s m #[Value.ref b] below meth c H [] 52 21692 (lw_Z below #[Value.ref b] s) (F0 m pc ls [.int 1]) := by
  intro T hT X
  obtain ⟨fs, hret, hrun, hended, hW, hframe⟩ := X.leave (v := some (.int 1)) (hlocks := hlocks) (fun h => by rw [hr] at h; cases h)
  have hmeth' : T.vm.method? m = some meth := X.method'
  refine ⟨T.setFrames fs, ?_, .returned (some (.int 1)), hrun, hended, rfl, ⟨_, rfl⟩, hW, hframe⟩
  jvm_step X.here [X.here.top, hx, hb, hdg, hmeth', hr, ret, narrow_b1]
  (try refine ⟨rfl, ?_⟩); (try refine ⟨rfl, ?_⟩)
  first | (intro acts; rw [hret _ acts rfl rfl rfl]) | rw [hret _ _ rfl rfl rfl]
  exact Steps.refl _
/-- what holds at the law's entry: the machine, the code, the tables' words (any of lw_tbl by 'hts w (by decide +kernel)'), the script of L ints xs at the cell b, what the Statement gives of the start (any of its parts by flat_of_before) -/
def lw_At (p : Program) (s : State) (m : MethodId) (meth : Method) (c : Code) (b L : Nat) (xs : Nat → Int32) : Prop :=
  p.tables.exec = Jvm.exec ∧ c.code = code ∧ meth.sig.returnType = ret ∧ c.maxLocals = 8 ∧ s.vm.findClass R_law = some m.cls ∧ (∀ w ∈ lw_tbl, w.before #[Value.ref b] s = true) ∧ va_X b L xs s s.heap ∧ b < s.heap.size ∧ meth.locks = false ∧ (Jvm.Cond.and given_1 narrow_1).before #[Value.ref b] s = true
set_option maxRecDepth 20000 in
theorem xB_in : ∀ q ∈ xB, Cond.castable q.1 q.2 ∈ lw_tbl := by decide +kernel
set_option maxRecDepth 20000 in
theorem xD_in : ∀ y ∈ xD, Cond.declares y ∈ lw_tbl := by decide +kernel
theorem goodIn_l {a b ws : List Cond} (h : GoodIn a ws) : GoodIn (a ++ b) ws := fun w hw => ⟨List.mem_append_left _ (h w hw).1, (h w hw).2⟩
def wsL_lawX : List Cond := wsL_law ++ xE2
theorem wsL_lawX_in : ∀ w ∈ wsL_lawX, w ∈ lw_tbl := fun w h => (List.mem_append.mp h).elim (wsL_law_in w) (wsX_oc2 w)
theorem gL_law_L_octetX : GoodIn wsL_lawX (va_wsS RL 88 yL_octet wsL_octetX) := by
  intro w h
  rcases List.mem_append.mp h with h | h
  · exact ⟨List.mem_append_left _ (gL_law_L_octet w (List.mem_append_left _ h)).1, (gL_law_L_octet w (List.mem_append_left _ h)).2⟩
  · rcases List.mem_append.mp h with h | h
    · exact ⟨List.mem_append_left _ (gL_law_L_octet w (List.mem_append_right _ h)).1, (gL_law_L_octet w (List.mem_append_right _ h)).2⟩
    · exact ⟨List.mem_append_right _ h, good_of_word (List.all_eq_true.mp gwX_oc2 w h)⟩
theorem ltS_0 {M : Nat → Prop} {r : Int32} (h : ltS M 0 r) : r = 0 := by
  rcases h with ⟨h, -⟩ | ⟨j, h, -⟩
  · exact h
  · exact absurd h (Nat.not_lt_zero _)
section LE
variable {p : Program} {l : Launch} {e : Env} {R : Room} {s : State} {m : MethodId} {args : Array Value} {below : List Frame} {meth : Method} {c : Code} {H : Heap} {locs : List Loc} {cells slots : Nat} {Q : State → Prop} {pc : Nat} {ls : Array Slot} {rest : List Value}
theorem lv_eqi {x y : Int32} (h : x = y) (k : W p l e R s m args below meth c H locs cells slots Q (F0 m pc ls (.int y :: rest))) : W p l e R s m args below meth c H locs cells slots Q (F0 m pc ls (.int x :: rest)) := by rw [h]; exact k
end LE

set_option maxRecDepth 20000 in
theorem nwF_in : ∀ q ∈ nwFs, Cond.fieldLinkNest q.1 q.2.1 q.2.2.1 q.2.2.2.1 q.2.2.2.2.1 q.2.2.2.2.2 ∈ lw_tbl := by decide +kernel
set_option maxRecDepth 20000 in
theorem nwM_in : ∀ q ∈ nwMs, Cond.methodLinkNest q.1 q.2.1 q.2.2.1 q.2.2.2 ∈ lw_tbl := by decide +kernel
theorem nW_of {args : Array Value} {s : State} (hts : ∀ w ∈ lw_tbl, w.before args s = true) : nW s := ⟨fun q hq => va_Nw.of rfl (hts _ (nwF_in q hq)), fun q hq => va_Nw.of rfl (hts _ (nwM_in q hq))⟩
set_option maxRecDepth 20000 in
theorem tnW_of {args : Array Value} {s : State} (A : Nat → Prop) (hA : ∀ a, a < s.heap.size → ¬ A a) (hts : ∀ w ∈ lw_tbl, w.before args s = true) (hgv : (Jvm.Cond.and given_1 narrow_1).before args s = true) : ∃ t, tnW t A s := by
  have hs := flat_of_before _ hgv
  have harr : (Cond.arrayOf (.static "CobolDebugger$Items" "TENS" "[J") .long).before args s = true := hs _ (by decide +kernel)
  have hlen := va_eqt (hs (Cond.eq (.length (.static "CobolDebugger$Items" "TENS" "[J")) (.int 10)) (by decide +kernel))
  obtain ⟨t, ht, hT⟩ := va_Tof (N := 10) (f := fun j => .long (tn_v j)) (A := A) (by decide) harr hlen (fun j hj => by
    rcases (show j = 0 ∨ j = 1 ∨ j = 2 ∨ j = 3 ∨ j = 4 ∨ j = 5 ∨ j = 6 ∨ j = 7 ∨ j = 8 ∨ j = 9 by omega) with rfl | rfl | rfl | rfl | rfl | rfl | rfl | rfl | rfl | rfl
    · exact va_eqtl (hs (Cond.eq (.elem (.static "CobolDebugger$Items" "TENS" "[J") (.int 0)) (.long 1)) (by decide +kernel))
    · exact va_eqtl (hs (Cond.eq (.elem (.static "CobolDebugger$Items" "TENS" "[J") (.int 1)) (.long 10)) (by decide +kernel))
    · exact va_eqtl (hs (Cond.eq (.elem (.static "CobolDebugger$Items" "TENS" "[J") (.int 2)) (.long 100)) (by decide +kernel))
    · exact va_eqtl (hs (Cond.eq (.elem (.static "CobolDebugger$Items" "TENS" "[J") (.int 3)) (.long 1000)) (by decide +kernel))
    · exact va_eqtl (hs (Cond.eq (.elem (.static "CobolDebugger$Items" "TENS" "[J") (.int 4)) (.long 10000)) (by decide +kernel))
    · exact va_eqtl (hs (Cond.eq (.elem (.static "CobolDebugger$Items" "TENS" "[J") (.int 5)) (.long 100000)) (by decide +kernel))
    · exact va_eqtl (hs (Cond.eq (.elem (.static "CobolDebugger$Items" "TENS" "[J") (.int 6)) (.long 1000000)) (by decide +kernel))
    · exact va_eqtl (hs (Cond.eq (.elem (.static "CobolDebugger$Items" "TENS" "[J") (.int 7)) (.long 10000000)) (by decide +kernel))
    · exact va_eqtl (hs (Cond.eq (.elem (.static "CobolDebugger$Items" "TENS" "[J") (.int 8)) (.long 100000000)) (by decide +kernel))
    · exact va_eqtl (hs (Cond.eq (.elem (.static "CobolDebugger$Items" "TENS" "[J") (.int 9)) (.long 1000000000)) (by decide +kernel))) hA
  exact ⟨t, va_Zref (hts (.laysStatic "CobolDebugger$Items" "TENS" "[J") (by decide +kernel)) (hts (.initialized "CobolDebugger$Items") (by decide +kernel)) ht hA, hT⟩
set_option maxRecDepth 20000 in
theorem xW_of {args : Array Value} {s : State} (A : Nat → Prop) (hA : ∀ a, a < s.heap.size → ¬ A a) (hts : ∀ w ∈ lw_tbl, w.before args s = true) (hgv : (Jvm.Cond.and given_1 narrow_1).before args s = true) : ∃ sa1 sa2 sa3, xW sa1 sa2 sa3 A s := by
  have hs := flat_of_before _ hgv
  obtain ⟨a1, _, _, _, h1, -⟩ := Cond.exactly_spec (hs (Cond.exactly (.string "CobolDebugger" 105) "java/lang/String") (by decide +kernel))
  obtain ⟨a2, _, _, _, h2, -⟩ := Cond.exactly_spec (hs (Cond.exactly (.string "CobolDebugger" 115) "java/lang/String") (by decide +kernel))
  obtain ⟨a3, _, _, _, h3, -⟩ := Cond.exactly_spec (hs (Cond.exactly (.string "CobolDebugger" 155) "java/lang/String") (by decide +kernel))
  refine ⟨a1, a2, a3, vk_R.of (hts (.stringRef RX4 105 "no such item") (by decide +kernel)) h1, vk_R.of (hts (.stringRef RX4 115 "a byte of the item is no digit") (by decide +kernel)) h2, vk_R.of (hts (.stringRef RX4 155 "no such item or byte") (by decide +kernel)) h3, ?_, ?_, ?_, ?_⟩
  · exact vx_Zqof (hts _ (by decide +kernel)) (hts (.initialized "java/lang/Throwable") (by decide +kernel)) (hs _ (by decide +kernel)) hA
  · exact vx_Zqof (hts _ (by decide +kernel)) (hts (.initialized "java/lang/Throwable") (by decide +kernel)) (hs _ (by decide +kernel)) hA
  · exact fun q hq => va_Nw.of rfl (hts _ (xB_in q hq))
  · exact fun y hy => va_Nw.of rfl (hts _ (xD_in y hy))
