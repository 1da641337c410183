/-! a throw that comes out of a callee, and the row of this method's table that takes it (the catch types linked on the way) -/
/-- the search's outcome, and the tables behind it, whatever is asked afterwards -/
def kx_F (e : Env) (u : State) (f : JFrame) (q : Addr) (h : Handler) (vm' : Vm) : Prop :=
  ∀ (Q : Handler → Pre) (E : CtlPost) (d : Bool) (as : List Action), wp (findHandler f q) Q E e d as u ↔ Q h d as (u.setVm vm')
/-- a row passes a thing by: it doesn't cover the place, or links to a class that the thing is not of -/
def kx_no (pl : Platform) (s : State) (dc : ClassId) (pc : Nat) (tc : ClassId) (y : ExceptionTableEntry) : Prop :=
  covers y pc = false ∨ (y.catchType ≠ 0 ∧ ∃ k, s.vm.ClassLinks pl dc y.catchType k ∧ s.vm.assignable tc k = false)
section KX
variable {Q : Handler → Pre} {E : CtlPost} {e : Env} {d : Bool} {as : List Action} {u : State} {f : JFrame} {q : Addr}
theorem kx_one {x : ExceptionTableEntry} {t : List ExceptionTableEntry} {k : ClassId} {ce : Cell} (hx : covers x f.pc = true) (h0 : x.catchType ≠ 0)
    (hl : u.vm.ClassLinks e.platform f.method.cls x.catchType k) (hce : u.heap[q]? = some ce) (ho : ∀ z, ce.vm ≠ .statics z)
    (h1 : ∃ z, u.vm.classes[ce.cls]? = some z) (h2 : ∃ z, u.vm.classes[k]? = some z) :
    (u.vm.assignable ce.cls k = true → (wp (findHandler.go f q (x :: t)) Q E e d as u ↔ Q (.found x.handlerPc) d as (u.setVm (u.vm.noted f.method.cls x.catchType (.cls k))))) ∧
    (u.vm.assignable ce.cls k = false → (wp (findHandler.go f q (x :: t)) Q E e d as u ↔ wp (findHandler.go f q t) Q E e d as (u.setVm (u.vm.noted f.method.cls x.catchType (.cls k))))) := by
  have hx' := hx
  simp only [covers] at hx'
  obtain ⟨ha, ht⟩ := (resolveClass_links e.toSetting hl).op (op := VmOp.resolveClass f.method.cls x.catchType) rfl
  have al : u.vm.Alike (u.vm.noted f.method.cls x.catchType (.cls k)) := (Vm.Alike.refl u.vm).noted _ _ _
  obtain ⟨z1, e1⟩ := h1
  obtain ⟨z2, e2⟩ := h2
  obtain ⟨y1, g1, -⟩ := al.2.2 _ _ e1
  obtain ⟨y2, g2, -⟩ := al.2.2 _ _ e2
  constructor
  · intro hf
    have hf' : (u.vm.noted f.method.cls x.catchType (.cls k)).assignable ce.cls k = true := by rw [al.assignable]; exact hf
    simp [findHandler.go, hx', h0, ha, ht, hce, ho, g1, g2, hf', VmOp.dirties, VmOp.acts]
  · intro hf
    have hf' : (u.vm.noted f.method.cls x.catchType (.cls k)).assignable ce.cls k = false := by rw [al.assignable]; exact hf
    simp [findHandler.go, hx', h0, ha, ht, hce, ho, g1, g2, hf', VmOp.dirties, VmOp.acts]
end KX
theorem kx_go {e : Env} {s : State} {f : JFrame} {q : Addr} {ce : Cell} (ho : ∀ z, ce.vm ≠ .statics z) (hk : ∃ z, s.vm.classes[ce.cls]? = some z)
    (x : ExceptionTableEntry) (suf : List ExceptionTableEntry) (hx : covers x f.pc = true) (h0 : x.catchType ≠ 0) {k : ClassId} (hl : s.vm.ClassLinks e.platform f.method.cls x.catchType k) (hf : s.vm.assignable ce.cls k = true) :
    ∀ (pre : List ExceptionTableEntry) (u : State), s.WarmedH u.vm → u.heap[q]? = some ce → (∀ y ∈ pre, kx_no e.platform s f.method.cls f.pc ce.cls y) →
      ∃ vm', s.WarmedH vm' ∧ ∀ (Q : Handler → Pre) (E : CtlPost) (d : Bool) (as : List Action), wp (findHandler.go f q (pre ++ x :: suf)) Q E e d as u ↔ Q (.found x.handlerPc) d as (u.setVm vm') := by
  obtain ⟨z0, hk⟩ := hk
  intro pre
  induction pre with
  | nil =>
    intro u hW hce _
    obtain ⟨z1, hz1, -⟩ := hW.alike.2.2 _ _ hk
    obtain ⟨dk, _, _, kt, hd, _, _, _, _, hkt, _, hopen⟩ := hl.here
    obtain ⟨z2, hz2, -⟩ := hW.alike.2.2 _ _ hkt
    exact ⟨_, hW.noted hd hopen (State.rightAt_cls hl), fun Q E d as => (kx_one (t := suf) hx h0 (hW.classLinks hl) hce ho ⟨z1, hz1⟩ ⟨z2, hz2⟩).1 (by rw [hW.alike.assignable]; exact hf)⟩
  | cons y ys ih =>
    intro u hW hce hp
    obtain ⟨z1, hz1, -⟩ := hW.alike.2.2 _ _ hk
    have hr : ∀ z ∈ ys, kx_no e.platform s f.method.cls f.pc ce.cls z := fun z hz => hp z (List.mem_cons_of_mem _ hz)
    by_cases hc : covers y f.pc = true
    · rcases hp y List.mem_cons_self with h | ⟨hy0, k2, hl2, hno⟩
      · rw [h] at hc; cases hc
      · obtain ⟨dk, _, _, kt, hd, _, _, _, _, hkt, _, hopen⟩ := hl2.here
        obtain ⟨z2, hz2, -⟩ := hW.alike.2.2 _ _ hkt
        obtain ⟨vm', hW', hq⟩ := ih (u.setVm (u.vm.noted f.method.cls y.catchType (.cls k2))) (hW.noted hd hopen (State.rightAt_cls hl2)) hce hr
        exact ⟨vm', hW', fun Q E d as => ((kx_one (t := ys ++ x :: suf) hc hy0 (hW.classLinks hl2) hce ho ⟨z1, hz1⟩ ⟨z2, hz2⟩).2 (by rw [hW.alike.assignable]; exact hno)).trans (hq Q E d as)⟩
    · obtain ⟨vm', hW', hq⟩ := ih u hW hce hr
      exact ⟨vm', hW', fun Q E d as => by rw [List.cons_append, W.findHandler_go_skip (by simpa using hc)]; exact hq Q E d as⟩
theorem kx_step {e : Env} {u : State} {q : Addr} {f : JFrame} {r : List Frame} {pc : Nat} {vm' : Vm} (h : kx_F e u f q (.found pc) vm') :
    (stepThrowing e u q (.java f :: r)).Is ((u.setVm vm').setFrames (.java { f with pc := pc, stack := [.ref q] } :: r)) [] := by
  simp only [stepThrowing, searchFrame, vmDo]
  generalize hr : Sem.go _ e false [] u = res
  obtain ⟨as, rfl, ha⟩ := Sem.eq_ok_of hr (a := Handler.found pc) (s' := u.setVm vm') (acts' := []) (by simp [h _ _ _ _])
  exact ⟨rfl, ha⟩
theorem kx_fr (u : State) (vm' : Vm) (F G : List Frame) : ((u.setFrames F).setVm vm').setFrames G = (u.setVm vm').setFrames G := by
  show ((u.setVm vm').setFrames F).setFrames G = _
  rw [State.setFrames_setFrames]
theorem kx_to {tb : Tables} {e : Env} {u target : State} {g : JFrame} {c : Code} {below : List Frame} {q : Addr} (h : At u g.method c below) {pc : Nat} {vm' : Vm}
    (hf : kx_F e ((u.setTop g).pushFrame (.throwing q)) g q (.found pc) vm') (hrest : Steps tb e below ((u.setVm vm').setTop { g with pc := pc, stack := [.ref q] }) target) :
    Steps tb e below ((u.setTop g).pushFrame (.throwing q)) target := by
  obtain ⟨hgo, hw⟩ := h.throwing q
  refine Steps.head hgo hw ?_
  rw [stepThread_throwing (frames_entered h.top _), (kx_step (u := (u.setTop g).pushFrame (.throwing q)) hf).1]
  obtain ⟨g0, hg⟩ := Option.isSome_iff_exists.mp h.top
  obtain ⟨r, hr⟩ := State.topJava?_eq_some.mp hg
  have hr' : (u.setVm vm').frames = .java g0 :: r := hr
  rw [State.setTop_of_frames _ hr'] at hrest
  rw [hr, List.tail_cons, State.pushFrame, kx_fr, State.setTop_of_frames _ hr, kx_fr]
  exact hrest
theorem kx_caught {p : Program} {l : Launch} {e : Env} {R : Room} {s : State} {m : MethodId} {args : Array Value} {below : List Frame} {meth : Method} {c : Code} {T : State} {locs : List Loc} {cells slots : Nat}
    (X : Stand p l e R s m args below meth c T locs cells slots) (q : Addr) {g : JFrame} (hg : g.method = m) {ce : Cell} (hce : T.heap[q]? = some ce) (ho : ce.vm.isStatics = false) (hk : ∃ z, s.vm.classes[ce.cls]? = some z)
    (pre : List ExceptionTableEntry) (x : ExceptionTableEntry) (suf : List ExceptionTableEntry) (hsplit : c.exceptionTable.toList = pre ++ x :: suf)
    (hp : ∀ y ∈ pre, kx_no e.platform s m.cls g.pc ce.cls y) (hx : covers x g.pc = true) (h0 : x.catchType ≠ 0) {k : ClassId} (hl : s.vm.ClassLinks e.platform m.cls x.catchType k) (hf : s.vm.assignable ce.cls k = true) :
    ∃ vm', Stand p l e R s m args below meth c (T.setVm vm') locs cells slots ∧ ∀ target, Steps p.tables e below ((T.setVm vm').setTop { g with pc := x.handlerPc, stack := [.ref q] }) target → Steps p.tables e below ((T.setTop g).pushFrame (.throwing q)) target := by
  subst hg
  obtain ⟨vm', hW', hq⟩ := kx_go (e := e) (s := s) (f := g) (q := q) (ce := ce) (VmData.ne_statics_of ho) hk x suf hx h0 hl hf pre ((T.setTop g).pushFrame (.throwing q)) X.warmed hce hp
  have hF : kx_F e ((T.setTop g).pushFrame (.throwing q)) g q (.found x.handlerPc) vm' := fun Q E d as => by
    have hm : ((T.setTop g).pushFrame (.throwing q)).vm.method? g.method = some meth := X.method'
    rw [W.findHandler_eq hm X.code, hsplit]; exact hq Q E d as
  exact ⟨vm', X.noted hW', fun target hrest => kx_to X.here hF hrest⟩
