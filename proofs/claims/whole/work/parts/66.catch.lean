/-! the search for a handler: every entry covers, names a class, cold or warm -/
section
variable {Q : Handler → Pre} {E : CtlPost} {e : Env} {d : Bool} {acts : List Action} {u : State} {f : JFrame} {a : Addr}
/-- one entry -/
theorem qx_go1 {x : ExceptionTableEntry} {tl : List ExceptionTableEntry} {c : ClassId} {cell : Cell} (hx : covers x f.pc = true) (h0 : x.catchType ≠ 0) (hl : u.vm.ClassLinks e.platform f.method.cls x.catchType c)
    (hcell : u.heap[a]? = some cell) (hobj : ∀ k, cell.vm ≠ .statics k) (hk : ∃ k, u.vm.classes[cell.cls]? = some k) (hc : ∃ k, u.vm.classes[c]? = some k) :
    wp (findHandler.go f a (x :: tl)) Q E e d acts u ↔ if u.vm.assignable cell.cls c = true then Q (.found x.handlerPc) d acts (u.setVm (u.vm.noted f.method.cls x.catchType (.cls c))) else wp (findHandler.go f a tl) Q E e d acts (u.setVm (u.vm.noted f.method.cls x.catchType (.cls c))) := by
  have hal : u.vm.Alike (u.vm.noted f.method.cls x.catchType (.cls c)) := (Vm.Alike.refl u.vm).noted _ _ _
  obtain ⟨q1, q2⟩ := (resolveClass_links e.toSetting hl).op (op := VmOp.resolveClass f.method.cls x.catchType) rfl
  obtain ⟨k1, hk⟩ := hk
  obtain ⟨k2, hc⟩ := hc
  obtain ⟨k3, hk3, -⟩ := hal.2.2 _ _ hk
  obtain ⟨k4, hk4, -⟩ := hal.2.2 _ _ hc
  simp only [covers] at hx
  by_cases hfit : u.vm.assignable cell.cls c = true
  · have h2 : (u.vm.noted f.method.cls x.catchType (.cls c)).assignable cell.cls c = true := by rw [hal.assignable]; exact hfit
    simp [findHandler.go, hx, h0, q1, q2, hcell, hobj, hk3, hk4, h2, hfit, VmOp.dirties, VmOp.acts]
  · have h3 : u.vm.assignable cell.cls c = false := by simpa using hfit
    have h2 : (u.vm.noted f.method.cls x.catchType (.cls c)).assignable cell.cls c = false := by rw [hal.assignable]; exact h3
    simp [findHandler.go, hx, h0, q1, q2, hcell, hobj, hk3, hk4, h2, h3, VmOp.dirties, VmOp.acts]
end
section
variable {p : Program} {l : Launch} {e : Env} {R : Room} {s : State} {m : MethodId} {args : Array Value} {below : List Frame} {meth : Method} {c : Code} {T : State} {locs : List Loc} {cells slots : Nat}
/-- the entries es are passed, the next one takes it -/
theorem qx_search (X : Stand p l e R s m args below meth c T locs cells slots) {own : String} (hown : s.vm.findClass own = some m.cls) {g : JFrame} (hg : g.method = m) {S : State} {a : Addr} {cell : Cell} (hcell : S.heap[a]? = some cell) (hobj : cell.vm = .none) (hck : ∃ k, s.vm.classes[cell.cls]? = some k)
    {x : ExceptionTableEntry} {nm : String} {rest : List ExceptionTableEntry} (hx : covers x g.pc = true) (hx0 : x.catchType ≠ 0) (hxl : (Cond.classLink own x.catchType nm).before args s = true) (hxa : ∀ cN, s.vm.findClass nm = some cN → s.vm.assignable cell.cls cN = true) :
    ∀ (es : List (ExceptionTableEntry × String)), (∀ y ∈ es, covers y.1 g.pc = true ∧ y.1.catchType ≠ 0 ∧ (Cond.classLink own y.1.catchType y.2).before args s = true ∧ ∀ cN, s.vm.findClass y.2 = some cN → s.vm.assignable cell.cls cN = false) →
      ∀ U : Vm, s.WarmedH U → ∃ vm', s.WarmedH vm' ∧ ∀ (Q : Handler → Pre) (E : CtlPost) (d : Bool) (acts : List Action), wp (findHandler.go g a (es.map (·.1) ++ x :: rest)) Q E e d acts (S.setVm U) ↔ Q (.found x.handlerPc) d acts (S.setVm vm') := by
  have hpl : e.platform.magicAccessors = ({} : Platform).magicAccessors := by rw [X.admits.platform]
  have hobj' : ∀ k, cell.vm ≠ .statics k := fun k h => by rw [hobj] at h; cases h
  have step : ∀ (y : ExceptionTableEntry) (n : String), (Cond.classLink own y.catchType n).before args s = true → ∀ U : Vm, s.WarmedH U → ∃ cN, s.vm.findClass n = some cN ∧ U.ClassLinks e.platform g.method.cls y.catchType cN ∧ s.WarmedH (U.noted g.method.cls y.catchType (.cls cN)) ∧ (∃ k, U.classes[cell.cls]? = some k) ∧ (∃ k, U.classes[cN]? = some k) := by
    intro y n hlk U hU
    obtain ⟨cN, hcN, hcl⟩ := Cond.classLink_spec hown hlk e.platform hpl
    obtain ⟨dk, _, _, kt, hd, _, _, _, _, hkt, _, hopen⟩ := hcl.here
    obtain ⟨k1, hk1⟩ := hck
    obtain ⟨k2, hk2, -⟩ := hU.alike.2.2 _ _ hk1
    obtain ⟨k3, hk3, -⟩ := hU.alike.2.2 _ _ hkt
    rw [hg]
    exact ⟨cN, hcN, hU.classLinks hcl, hU.noted hd hopen (State.rightAt_cls hcl), ⟨k2, hk2⟩, ⟨k3, hk3⟩⟩
  intro es
  induction es with
  | nil =>
    intro _ U hU
    obtain ⟨cN, h1, h2, h3, h4, h5⟩ := step x nm hxl U hU
    refine ⟨_, h3, fun Q E d acts => ?_⟩
    have hfit : U.assignable cell.cls cN = true := by rw [hU.alike.assignable]; exact hxa cN h1
    rw [List.map_nil, List.nil_append, qx_go1 (u := S.setVm U) hx hx0 h2 hcell hobj' h4 h5, if_pos (show (S.setVm U).vm.assignable cell.cls cN = true from hfit)]
    exact Iff.rfl
  | cons y es ih =>
    intro hes U hU
    obtain ⟨g1, g2, g3, g4⟩ := hes y List.mem_cons_self
    obtain ⟨cN, h1, h2, h3, h4, h5⟩ := step y.1 y.2 g3 U hU
    obtain ⟨vm', h6, h7⟩ := ih (fun z hz => hes z (List.mem_cons_of_mem _ hz)) _ h3
    refine ⟨vm', h6, fun Q E d acts => ?_⟩
    have hfit : U.assignable cell.cls cN = false := by rw [hU.alike.assignable]; exact g4 cN h1
    rw [List.map_cons, List.cons_append, qx_go1 (u := S.setVm U) g1 g2 h2 hcell hobj' h4 h5, if_neg (by rw [show (S.setVm U).vm.assignable cell.cls cN = false from hfit]; decide)]
    exact h7 Q E d acts
/-- from the note to the handler -/
theorem qx_caught (X : Stand p l e R s m args below meth c T locs cells slots) {own : String} (hown : s.vm.findClass own = some m.cls) {g : JFrame} (hg : g.method = m) {a : Addr} {cell : Cell} (hcell : T.heap[a]? = some cell) (hobj : cell.vm = .none) (hck : ∃ k, s.vm.classes[cell.cls]? = some k)
    {x : ExceptionTableEntry} {nm : String} {rest : List ExceptionTableEntry} (es : List (ExceptionTableEntry × String)) (htab : c.exceptionTable.toList = es.map (·.1) ++ x :: rest) (hx : covers x g.pc = true) (hx0 : x.catchType ≠ 0) (hxl : (Cond.classLink own x.catchType nm).before args s = true) (hxa : ∀ cN, s.vm.findClass nm = some cN → s.vm.assignable cell.cls cN = true)
    (hes : ∀ y ∈ es, covers y.1 g.pc = true ∧ y.1.catchType ≠ 0 ∧ (Cond.classLink own y.1.catchType y.2).before args s = true ∧ ∀ cN, s.vm.findClass y.2 = some cN → s.vm.assignable cell.cls cN = false) :
    ∃ vm', Stand p l e R s m args below meth c (T.setVm vm') locs cells slots ∧ ∀ target, Steps p.tables e below ((T.setVm vm').setTop { g with pc := x.handlerPc, stack := [.ref a] }) target → Steps p.tables e below ((T.setTop g).pushFrame (.throwing a)) target := by
  have hheap : ((T.setTop g).pushFrame (.throwing a)).heap = T.heap := Stand.throwing_heap T g a
  have hvm : ((T.setTop g).pushFrame (.throwing a)).vm = T.vm := Stand.throwing_vm T g a
  obtain ⟨vm', h1, h2⟩ := qx_search X hown hg (S := (T.setTop g).pushFrame (.throwing a)) (by rw [hheap]; exact hcell) hobj hck (rest := rest) hx hx0 hxl hxa es hes T.vm X.warmed
  have hself : ((T.setTop g).pushFrame (.throwing a)).setVm T.vm = (T.setTop g).pushFrame (.throwing a) := by
    have := State.setVm_self ((T.setTop g).pushFrame (.throwing a))
    rw [hvm] at this
    exact this
  rw [hself, ← htab] at h2
  refine ⟨vm', X.noted h1, fun target hrest => ?_⟩
  have hm' : ((T.setTop g).pushFrame (.throwing a)).vm.method? g.method = some meth := by rw [hvm, hg]; exact X.method'
  have hA : At T g.method c below := by rw [hg]; exact X.here
  obtain ⟨hgo, hw⟩ := hA.throwing a
  refine Steps.head hgo hw ?_
  rw [stepThread_throwing (frames_entered hA.top _)]
  have hfind : ∀ (Q : Handler → Pre) (E : CtlPost) (d : Bool) (acts : List Action), wp (findHandler g a) Q E e d acts ((T.setTop g).pushFrame (.throwing a)) ↔ Q (.found x.handlerPc) d acts (((T.setTop g).pushFrame (.throwing a)).setVm vm') := fun Q E d acts => (W.findHandler_eq hm' X.code).trans (h2 Q E d acts)
  have hstep : (stepThrowing e ((T.setTop g).pushFrame (.throwing a)) a (.java g :: T.frames.tail)).1 = (((T.setTop g).pushFrame (.throwing a)).setVm vm').setFrames (.java { g with pc := x.handlerPc, stack := [.ref a] } :: T.frames.tail) := by
    simp only [stepThrowing, searchFrame, vmDo]
    generalize hr : Sem.go _ e false [] ((T.setTop g).pushFrame (.throwing a)) = res
    obtain ⟨as, rfl, -⟩ := Sem.eq_ok_of hr (a := Handler.found x.handlerPc) (s' := ((T.setTop g).pushFrame (.throwing a)).setVm vm') (acts' := []) (by simp [hfind _ _ _ _])
    rfl
  rw [hstep]
  obtain ⟨g₀, hg0⟩ := Option.isSome_iff_exists.mp hA.top
  obtain ⟨r, hr⟩ := State.topJava?_eq_some.mp hg0
  have hr' : (T.setVm vm').frames = .java g₀ :: r := hr
  have hsw : ∀ (u : State) (F F' : List Frame), ((u.setFrames F).setVm vm').setFrames F' = (u.setVm vm').setFrames F' := fun u F F' => by
    show ((u.setVm vm').setFrames F).setFrames F' = _
    rw [State.setFrames_setFrames]
  rw [State.setTop_of_frames _ hr'] at hrest
  rw [hr, List.tail_cons, State.pushFrame, hsw, State.setTop_of_frames _ hr, hsw]
  exact hrest
end
