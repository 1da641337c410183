/-- what a throw needs of the state: the texts' cells, two statics of Throwable, the words that a warming does not keep by itself -/
def xB : List (String × String) := [("java/lang/IllegalArgumentException", "java/lang/IllegalArgumentException"), ("java/lang/IllegalStateException", "java/lang/IllegalStateException"), ("java/lang/ArrayIndexOutOfBoundsException", "java/lang/ArrayIndexOutOfBoundsException")]
def xD : List MethodName := [⟨"java/lang/RuntimeException", "<init>", "(Ljava/lang/String;)V"⟩, ⟨"java/lang/Exception", "<init>", "(Ljava/lang/String;)V"⟩, ⟨"java/lang/Throwable", "<init>", "(Ljava/lang/String;)V"⟩, ⟨"java/lang/IndexOutOfBoundsException", "<init>", "(Ljava/lang/String;)V"⟩]
def xW (sa1 sa2 sa3 : Nat) (A : Nat → Prop) (U : State) : Prop := vk_R RX4 105 "no such item" sa1 U ∧ vk_R RX4 115 "a byte of the item is no digit" sa2 U ∧ vk_R RX4 155 "no such item or byte" sa3 U ∧ vx_Zq Bundle.tN "UNASSIGNED_STACK" Bundle.steD A U U.heap ∧ vx_Zq Bundle.tN "SUPPRESSED_SENTINEL" Bundle.listD A U U.heap ∧ (∀ q ∈ xB, va_Nw (.castable q.1 q.2) U) ∧ ∀ y ∈ xD, va_Nw (.declares y) U
theorem xW_same {sa1 sa2 sa3 : Nat} {A : Nat → Prop} {U : State} {g : JFrame} {mk : MethodId} {a : Array Value} (h : xW sa1 sa2 sa3 A U) : xW sa1 sa2 sa3 A (U.calling g mk a) :=
  ⟨vk_R.same rfl h.1, vk_R.same rfl h.2.1, vk_R.same rfl h.2.2.1, vx_Zq.moved (u := U) (U := U.calling g mk a) (Vm.Alike.refl U.vm) h.2.2.2.1, vx_Zq.moved (u := U) (U := U.calling g mk a) (Vm.Alike.refl U.vm) h.2.2.2.2.1, fun q hq => va_Nw.same rfl rfl (h.2.2.2.2.2.1 q hq), fun y hy => va_Nw.same rfl rfl (h.2.2.2.2.2.2 y hy)⟩
theorem xW_in {s U : State} {A B : Nat → Prop} {H : Heap} {locs : List Loc} {sa1 sa2 sa3 : Nat} (hW : s.WarmedH U.vm) (hU : U.heap = H) (hS : va_S A s.heap H locs) (hF : ∀ q, B q → A q) (h : xW sa1 sa2 sa3 A s) : xW sa1 sa2 sa3 B U :=
  ⟨vk_R.warm hW h.1, vk_R.warm hW h.2.1, vk_R.warm hW h.2.2.1, by rw [hU]; exact ((h.2.2.2.1.kept hS.2.1).moved hW.alike).narrow hF, by rw [hU]; exact ((h.2.2.2.2.1.kept hS.2.1).moved hW.alike).narrow hF, fun q hq => va_Nw.warmC hW (h.2.2.2.2.2.1 q hq), fun y hy => va_Nw.warmD hW (h.2.2.2.2.2.2 y hy)⟩
theorem xF_in {H : Heap} {A : Nat → Prop} {H0 : Heap} (hA : ∀ q, H0.size ≤ q → A q) (h0 : H0.size ≤ H.size) : ∀ q, va_A [] H.size q → A q := by
  rintro q (⟨k, e, h⟩ | h)
  · simp at h
  · exact hA q (Nat.le_trans h0 h)
/-- the words of octet, with those of its throw -/
def wsX4_octetX : List Cond := wsX4_octet ++ (vx_atS RX4 157 "java/lang/ArrayIndexOutOfBoundsException" ["java/lang/IndexOutOfBoundsException", "java/lang/RuntimeException", "java/lang/Exception"]).filter goodWord
def xE2 : List Cond := Cond.classLink RL 21 "java/lang/ArrayIndexOutOfBoundsException" :: (vx_atS RX4 157 "java/lang/ArrayIndexOutOfBoundsException" ["java/lang/IndexOutOfBoundsException", "java/lang/RuntimeException", "java/lang/Exception"]).filter goodWord
def wsL_octetX : List Cond := wsL_octet ++ xE2
set_option maxRecDepth 20000 in
theorem wsX_oc2 : ∀ w ∈ xE2, w ∈ lw_tbl := by decide +kernel
set_option maxRecDepth 20000 in
theorem gwX_oc2 : xE2.all goodWord = true := by decide +kernel
set_option maxRecDepth 20000 in
theorem wsX_oc : ∀ w ∈ (vx_atS RX4 157 "java/lang/ArrayIndexOutOfBoundsException" ["java/lang/IndexOutOfBoundsException", "java/lang/RuntimeException", "java/lang/Exception"]).filter goodWord, w ∈ lw_tbl := by decide +kernel
set_option maxRecDepth 20000 in
theorem gwX_oc : ((vx_atS RX4 157 "java/lang/ArrayIndexOutOfBoundsException" ["java/lang/IndexOutOfBoundsException", "java/lang/RuntimeException", "java/lang/Exception"]).filter goodWord).all goodWord = true := by decide +kernel

set_option maxRecDepth 20000 in
theorem xb_107 : ∀ w ∈ (vx_atS RX4 107 "java/lang/IllegalArgumentException" ["java/lang/RuntimeException", "java/lang/Exception"]).filter (fun w => !goodWord w), w ∈ Cond.castable "java/lang/IllegalArgumentException" "java/lang/IllegalArgumentException" :: xD.map Cond.declares := by decide +kernel
set_option maxRecDepth 20000 in
theorem xg_107 : ∀ w ∈ (vx_atS RX4 107 "java/lang/IllegalArgumentException" ["java/lang/RuntimeException", "java/lang/Exception"]), vx_ot w = true := by decide +kernel

set_option maxRecDepth 20000 in
theorem xb_117 : ∀ w ∈ (vx_atS RX4 117 "java/lang/IllegalStateException" ["java/lang/RuntimeException", "java/lang/Exception"]).filter (fun w => !goodWord w), w ∈ Cond.castable "java/lang/IllegalStateException" "java/lang/IllegalStateException" :: xD.map Cond.declares := by decide +kernel
set_option maxRecDepth 20000 in
theorem xg_117 : ∀ w ∈ (vx_atS RX4 117 "java/lang/IllegalStateException" ["java/lang/RuntimeException", "java/lang/Exception"]), vx_ot w = true := by decide +kernel

set_option maxRecDepth 20000 in
theorem xb_157 : ∀ w ∈ (vx_atS RX4 157 "java/lang/ArrayIndexOutOfBoundsException" ["java/lang/IndexOutOfBoundsException", "java/lang/RuntimeException", "java/lang/Exception"]).filter (fun w => !goodWord w), w ∈ Cond.castable "java/lang/ArrayIndexOutOfBoundsException" "java/lang/ArrayIndexOutOfBoundsException" :: xD.map Cond.declares := by decide +kernel
set_option maxRecDepth 20000 in
theorem xg_157 : ∀ w ∈ (vx_atS RX4 157 "java/lang/ArrayIndexOutOfBoundsException" ["java/lang/IndexOutOfBoundsException", "java/lang/RuntimeException", "java/lang/Exception"]), vx_ot w = true := by decide +kernel

set_option maxRecDepth 20000 in
theorem gX4_octetX_X0_has_n86 : GoodIn wsX4_octetX wsX0_has := fun w h => ⟨List.mem_append_left _ (ggX4_octet_X0_has w h).1, (ggX4_octet_X0_has w h).2⟩

theorem gL_octetX_X4_octetX : GoodIn wsL_octetX (wsV RL 17 RX4 yX4_octet wsX4_octetX) := by
  intro w h
  rcases List.mem_append.mp h with h | h
  · exact ⟨List.mem_append_left _ (gL_octet_X4_octet w (List.mem_append_left _ h)).1, (gL_octet_X4_octet w (List.mem_append_left _ h)).2⟩
  · rcases List.mem_append.mp h with h | h
    · exact ⟨List.mem_append_left _ (gL_octet_X4_octet w (List.mem_append_right _ h)).1, (gL_octet_X4_octet w (List.mem_append_right _ h)).2⟩
    · exact ⟨List.mem_append_right _ (List.mem_cons_of_mem _ h), good_of_word (List.all_eq_true.mp gwX_oc w h)⟩
