/-! a contract of a method that may throw -/
/-- no exception of the one class is one of the other -/
def qXn : List (String × String) := [("java/lang/IllegalArgumentException", "java/lang/UnsupportedOperationException"), ("java/lang/IllegalArgumentException", "java/lang/IllegalStateException"), ("java/lang/IllegalArgumentException", "java/lang/IndexOutOfBoundsException"), ("java/lang/UnsupportedOperationException", "java/lang/IllegalArgumentException"), ("java/lang/UnsupportedOperationException", "java/lang/IllegalStateException"), ("java/lang/UnsupportedOperationException", "java/lang/IndexOutOfBoundsException"), ("java/lang/IllegalStateException", "java/lang/IllegalArgumentException"), ("java/lang/IllegalStateException", "java/lang/UnsupportedOperationException"), ("java/lang/IllegalStateException", "java/lang/IndexOutOfBoundsException"), ("java/lang/IndexOutOfBoundsException", "java/lang/IllegalArgumentException"), ("java/lang/IndexOutOfBoundsException", "java/lang/UnsupportedOperationException"), ("java/lang/IndexOutOfBoundsException", "java/lang/IllegalStateException")]
def qE (A : Nat → Prop) (s : State) : Prop := (∀ U : State, s.WarmedH U.vm → (∀ q, q < s.heap.size → ¬ A q → U.heap[q]? = s.heap[q]?) → ∀ w ∈ qXw, ∀ a : Array Value, w.before a U = true) ∧ (∀ x ∈ qXs, ∃ q, vk_R "CounterLeaper" x.1 x.2 q s) ∧ ∀ x ∈ qXn, ∀ cE cN, s.vm.findClass x.1 = some cE → s.vm.findClass x.2 = some cN → s.vm.assignable cE cN = false
def qXM (l : Launch) (G : qG) (y : MethodName) (cc : ByteArray) (nL : Nat) (ret : Option FieldType) (rm : Room) (av : List Value) (ws : va_W) (post : Option Value → va_W → Prop) (postT : String → va_W → Prop) : Prop :=
  ∀ (p : Program) (e : Env) (s : State) (m : MethodId) (below : List Frame) (meth : Method) (c : Code) (T : State), Stand p l e rm s m av.toArray below meth c T [] 0 0 → T.heap = s.heap → p.tables.exec = Jvm.exec → c.code = cc → c.maxLocals = nL → c.exceptionTable.toList = [] → meth.sig.returnType = ret → meth.locks = false → meth.name = y.name → s.vm.findClass y.cls = some m.cls → e.platform.stackTraces = false → va_P G.1 vwCl ws s.heap → va_D (fun _ => True) ws → qK G s → qE (va_A ws s.heap.size) s →
    ∃ t, Steps p.tables e below (T.setTop (entryFrame m av.toArray nL)) t ∧ qX G (va_A ws s.heap.size) below s rm.cells rm.slots post postT t
section
variable {l : Launch} {G : qG} {nL : Nat} {cc : ByteArray} {ws : va_W}
theorem qXM.of {y : MethodName} {ret : Option FieldType} {rm : Room} {av : List Value} {post : Option Value → va_W → Prop} {postT : String → va_W → Prop} (hn : (lg_sl av).length ≤ nL)
    (body : ∀ (p : Program) (e : Env) (s : State) (m : MethodId) (below : List Frame) (meth : Method) (c : Code) (A : Nat → Prop), qC p s m c cc y.cls G A s.heap nL → meth.sig.returnType = ret → meth.locks = false → meth.name = y.name → c.exceptionTable.toList = [] → e.platform.stackTraces = false → qE A s →
      qV p l e rm s m av.toArray below meth c G A s.heap nL (qX G A below s rm.cells rm.slots post postT) 0 0 ws (lv_args 0 av) 0 []) : qXM l G y cc nL ret rm av ws post postT := by
  intro p e s m below meth c T X hT h1 h2 h3 h4 h5 h6 h7 h8 h9 hP hD0 hK hE
  rw [lg_entry_eq]
  exact body p e s m below meth c (va_A ws s.heap.size) ⟨h1, h2, h3, h8, hK, fun q h => Or.inr h⟩ h5 h6 h7 h4 h9 hE s.heap [] _ hP hD0.self va_S.rf (lv_entry av hn) T hT X
end
section
variable {p : Program} {l : Launch} {e : Env} {R : Room} {s : State} {m : MethodId} {args : Array Value} {below : List Frame} {meth : Method} {c : Code} {G : qG} {A : Nat → Prop} {nL : Nat} {cells slots : Nat} {ws : va_W} {lv : List (Nat × Value)} {pc : Nat} {cc : ByteArray}
theorem qx_thr {mc ms : Nat} {post : Option Value → va_W → Prop} {postT : String → va_W → Prop} (C : qC p s m c cc "CounterLeaper" G A s.heap nL) (htr : e.platform.stackTraces = false) (hlk : meth.locks = false) (hex : c.exceptionTable.toList = []) (hE : qE A s) {E : String} {x : Nat × String} {names : List String} {ix ic k : Nat}
    (hs : ∀ w ∈ Bundle.ownAtoms "CounterLeaper" ic E names, w ∈ qTbl ∨ w ∈ qXw) (hfit : Bundle.fit E = true) (hnames : ∀ n ∈ names, Bundle.fit n = true)
    (hcl : Cond.classLink "CounterLeaper" ix E ∈ qTbl) (hin : Cond.instantiable E 6 ∈ qTbl) (hini : Cond.initialized E ∈ qTbl) (hS : x ∈ qXs) (hk : x.1 = k)
    (hd1 : decode cc pc = .ok (.new ix, 3)) (hd2 : decode cc (pc + 3) = .ok (.dup, 1)) (hd3 : decode cc (pc + 4) = .ok (.ldc k, 2)) (hd4 : decode cc (pc + 6) = .ok (.invokespecial ic, 3)) (hd5 : decode cc (pc + 9) = .ok (.athrow, 1))
    (hf : cells + 1 ≤ mc ∧ slots + 6 ≤ ms) (hR : mc ≤ R.cells ∧ ms ≤ R.slots) (hRf : names.length + 3 < R.frames) (hRl : 8 + (13 * (names.length + 1) + 42) ≤ R.locals) (hp : postT E ws) :
    qV p l e R s m args below meth c G A s.heap nL (qX G A below s mc ms post postT) cells slots ws lv pc [] := by
  obtain ⟨q, hq⟩ := hE.2.1 x hS
  rw [hk] at hq
  refine qx_throw C htr hlk hex hfit hnames (fun U hv hh w hmem => ?_) hcl hin hini hq hd1 hd2 hd3 hd4 hd5 hf hR hRf hRl hp
  rcases hs w hmem with h | h
  · exact (C.2.2.2.2.1.warm (s := s) (U := U) (by rw [hv]; exact State.WarmedH.refl s)).word h
  · exact hE.1 U (by rw [hv]; exact State.WarmedH.refl s) hh w h args
end
