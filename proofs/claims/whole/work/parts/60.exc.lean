/-! exceptions: a walk is rooted anew where it throws -/
section
variable {p : Program} {l : Launch} {e : Env} {R : Room} {s : State} {m : MethodId} {args : Array Value} {below : List Frame} {meth : Method} {c : Code} {T : State} {locs : List Loc} {cells slots : Nat}
/-- the start's state with the heap of now -/
abbrev qx_at (s T : State) : State := { s with heap := T.heap, slotsUsed := T.slotsUsed }
theorem qx_root (X : Stand p l e R s m args below meth c T locs cells slots) {R' : Room} (hR : R'.frames ≤ R.frames ∧ R'.locals ≤ R.locals ∧ cells + R'.cells ≤ R.cells ∧ slots + R'.slots ≤ R.slots) : Stand p l e R' (qx_at s T) m args below meth c T [] 0 0 := by
  have h1 := X.heapSize
  have h2 := X.used
  have h3 := X.book
  have hr := X.room
  have hroom : (qx_at s T).hasRoom e.platform R' = true := by
    have hF : (qx_at s T).frames = .invoking m args :: below := X.frames
    have hU : (qx_at s T).localsInUse = s.localsInUse := by
      rw [State.localsInUse_invoking hF (show (qx_at s T).vm.method? m = some meth from X.method) X.code, State.localsInUse_invoking X.frames X.method X.code]
    unfold State.hasRoom at hr ⊢
    rw [hU]
    simp only [Bool.and_eq_true, decide_eq_true_eq] at hr ⊢
    obtain ⟨⟨⟨⟨a1, a2⟩, a3⟩, a4⟩, a5⟩ := hr
    refine ⟨⟨⟨⟨by omega, ?_⟩, ?_⟩, ?_⟩, h3⟩
    · have e1 : (qx_at s T).frames.length = s.frames.length := rfl
      have e2 : (qx_at s T).me = s.me := rfl
      rw [e1, e2]
      omega
    · show T.heap.size + _ ≤ _
      omega
    · show T.slotsUsed + _ ≤ _
      omega
  refine ⟨X.admits, X.cas, X.clock, X.frames, hroom, X.hears, X.method, X.code, X.here, X.tail, X.warmed, X.limits, X.bytes, ?_⟩
  refine ⟨?_, Nat.le_refl _, Nat.le_refl _, ?_, ?_, fun a c h => ⟨c, h, rfl, rfl, fun _ _ => rfl⟩⟩
  · exact X.same.1
  · show T.slotsUsed = T.slotsUsed + ((T.heap.toList.drop T.heap.size).map (·.slots.size)).sum
    rw [List.drop_eq_nil_of_le (by simp)]
    rfl
  · show ((T.heap.toList.drop T.heap.size).map (·.slots.size)).sum ≤ 0
    rw [List.drop_eq_nil_of_le (by simp)]
    exact Nat.le_refl _
end
/-- how a method that may throw ends: by an answer, or by an exception of a class -/
def qX (G : qG) (A : Nat → Prop) (below : List Frame) (s : State) (mc ms : Nat) (post : Option Value → va_W → Prop) (postT : String → va_W → Prop) : State → Prop := fun t =>
  t.status = .running ∧ s.WarmedH t.vm ∧ va_F A s t ∧ ∃ L : List Loc, s.sameButNew ({ t with vm := s.vm } : State) L mc ms ∧ (∀ q ∈ L, A q.base) ∧
    ((∃ (v : Option Value) (ws' : va_W), Ended t below (.returned v) ∧ post v ws' ∧ va_P G.1 vwCl ws' t.heap ∧ va_D A ws') ∨
     (∃ (x : Addr) (E : String) (ws' : va_W) (cell : Cell), Ended t below (.threw x) ∧ postT E ws' ∧ va_P G.1 vwCl ws' t.heap ∧ va_D A ws' ∧ t.heap[x]? = some cell ∧ s.vm.findClass E = some cell.cls ∧ cell.vm = .none))
section
variable {p : Program} {l : Launch} {e : Env} {R : Room} {s : State} {m : MethodId} {args : Array Value} {below : List Frame} {meth : Method} {c : Code} {G : qG} {A : Nat → Prop} {H0 : Heap} {nL : Nat} {Q Q' : State → Prop} {cells slots : Nat} {ws : va_W} {lv : List (Nat × Value)} {pc : Nat} {st rest : List Value} {cc : ByteArray} {own : String}
theorem qv_mono (h : ∀ t, Q t → Q' t) (k : qV p l e R s m args below meth c G A H0 nL Q cells slots ws lv pc st) : qV p l e R s m args below meth c G A H0 nL Q' cells slots ws lv pc st :=
  fun H locs ls hP hD hS hl T hT X => by
    obtain ⟨t, a, b⟩ := k H locs ls hP hD hS hl T hT X
    exact ⟨t, a, h t b⟩
/-- an answer -/
theorem qx_ret {mc ms : Nat} {post : Option Value → va_W → Prop} {postT : String → va_W → Prop} (hc : cells ≤ mc ∧ slots ≤ ms) (k : qV p l e R s m args below meth c G A H0 nL (MQ below (qQ G A post) args s cells slots A) cells slots ws lv pc st) : qV p l e R s m args below meth c G A H0 nL (qX G A below s mc ms post postT) cells slots ws lv pc st := by
  refine qv_mono (fun t h => ?_) k
  obtain ⟨o, h1, h2, ⟨⟨v, ws', rfl, h4, h5, h6⟩, h7⟩, L, ⟨_, h8, h9⟩, h10⟩ := h
  exact ⟨h1, h8, h7, L, h9.mono hc.1 hc.2, h10, Or.inl ⟨v, ws', h2, h4, h5, h6⟩⟩
theorem qx_throw {mc ms : Nat} {post : Option Value → va_W → Prop} {postT : String → va_W → Prop} (C : qC p s m c cc own G A s.heap nL) (htr : e.platform.stackTraces = false) (hlk : meth.locks = false) (hex : c.exceptionTable.toList = []) {E tx : String} {names : List String} {ix ic k q : Nat}
    (hfit : Bundle.fit E = true) (hnames : ∀ n ∈ names, Bundle.fit n = true)
    (hw : ∀ U : State, U.vm = s.vm → (∀ q, q < s.heap.size → ¬ A q → U.heap[q]? = s.heap[q]?) → ∀ w ∈ Bundle.ownAtoms own ic E names, w.before args U = true)
    (hcl : Cond.classLink own ix E ∈ qTbl) (hin : Cond.instantiable E 6 ∈ qTbl) (hini : Cond.initialized E ∈ qTbl) (hS : vk_R own k tx q s)
    (hd1 : decode cc pc = .ok (.new ix, 3)) (hd2 : decode cc (pc + 3) = .ok (.dup, 1)) (hd3 : decode cc (pc + 4) = .ok (.ldc k, 2)) (hd4 : decode cc (pc + 6) = .ok (.invokespecial ic, 3)) (hd5 : decode cc (pc + 9) = .ok (.athrow, 1))
    (hf : cells + 1 ≤ mc ∧ slots + 6 ≤ ms) (hR : mc ≤ R.cells ∧ ms ≤ R.slots) (hRf : names.length + 3 < R.frames) (hRl : 8 + (13 * (names.length + 1) + 42) ≤ R.locals) (hp : postT E ws) :
    qV p l e R s m args below meth c G A s.heap nL (qX G A below s mc ms post postT) cells slots ws lv pc [] := by
  intro H locs ls hP hD hS0 hl T hT X
  subst hT
  have X0 := qx_root X (R' := { R with cells := R.cells - cells, slots := R.slots - slots }) ⟨Nat.le_refl _, Nat.le_refl _, by show cells + (R.cells - cells) ≤ R.cells; omega, by show slots + (R.slots - slots) ≤ R.slots; omega⟩
  have hK : qK G (qx_at s T) := C.2.2.2.2.1.warm (s := s) (U := qx_at s T) (State.WarmedH.refl s)
  have hown : (qx_at s T).vm.findClass own = some m.cls := C.2.2.2.1
  obtain ⟨cC, kC0, hfc, hkC0, -, -, -, -⟩ := Cond.instantiable_spec (hK.word (a := args) hin)
  have hW : W p l e { R with cells := R.cells - cells, slots := R.slots - slots } (qx_at s T) m args below meth c T.heap [] 0 0
      (fun U => U.status = .running ∧ Ended U below (.threw T.heap.size) ∧ s.WarmedH U.vm ∧ (qx_at s T).sameButNew ({ U with vm := s.vm } : State) [] 1 6 ∧ ∃ ce : Cell, U.heap[T.heap.size]? = some ce ∧ s.vm.findClass E = some ce.cls ∧ ce.vm = .none) (F0 m pc ls []) := by
    refine W.newcK C.1 C.2.1 hown (hK.word hcl) (hK.word hin) (hK.word hini) rfl hd1 (by show 0 + 1 ≤ R.cells - cells; omega) (by show 0 + 6 ≤ R.slots - slots; omega) hfc rfl (fun H' kC hkC hc1 hz1 ho1 => ?_)
    refine lv_dup C.1 C.2.1 hd2 rfl ?_
    refine va_ldcS C.1 C.2.1 hown (vk_R.same (u := s) rfl hS) hd3 ?_
    intro T2 hT2 X2
    obtain ⟨U, st1, hrun, hend, hWU, hsame, ce, hce, hoc⟩ := X2.ctorThrowS C.1 htr hown hfit hnames
      (hw (qx_at s T) rfl hS0.2.1) (fun x hx => by cases hx) (a := T.heap.size) hfc hkC (by rw [hT2]; exact hc1) (Nat.le_refl _) (msg := .ref q) rfl (g := F0 m (pc + 6) ls [.ref q, .ref T.heap.size, .ref T.heap.size]) rfl
      (hl.1.trans C.2.2.1.symm) rfl rfl (rest := []) rfl (by rw [C.2.1]; exact hd4) (by rw [C.2.1]; exact hd5) (by rw [hex]; intro x hx; cases hx) hRf (by
        show 2 * 0 + 1 + (13 * (names.length + 1) + 42) ≤ R.locals
        omega) hlk
    exact ⟨U, st1, hrun, hend, hWU, hsame, ce, hce, hoc.cls, hoc.vm⟩
  obtain ⟨U, st1, hrun, hend, hWU, hsame, ce, hce, hc1, hc2⟩ := hW T rfl X0
  have hk : ∀ q, q < T.heap.size → U.heap[q]? = T.heap[q]? := by
    intro q hq
    obtain ⟨c', g1, g2, g3, g4⟩ := hsame.2.2.2.2.2 q T.heap[q] (Array.getElem?_eq_getElem hq)
    have g5 : c'.slots = T.heap[q].slots := Array.ext_getElem? (fun i => g4 i (by simp))
    have g6 : U.heap[q]? = some c' := g1
    rw [g6, Array.getElem?_eq_getElem hq, g2, g5]
  have hsz : T.heap.size ≤ U.heap.size := hsame.2.1
  refine ⟨U, st1, hrun, hWU, ⟨Nat.le_trans hS0.1 hsz, fun q h1 h2 => (hk q (Nat.lt_of_lt_of_le h1 hS0.1)).trans (hS0.2.1 q h1 h2)⟩, locs ++ [], ?_, fun q hq => hS0.2.2 q (by simpa using hq), Or.inr ⟨T.heap.size, E, ws, ce, hend, hp, fun i x hx => (hP i x hx).kept (hk x.1 (hP i x hx).lt), hD, hce, hc1, hc2⟩⟩
  have h9 : (T.setVm s.vm).sameButNew ({ U with vm := s.vm } : State) [] 1 6 := by
    obtain ⟨q1, q2⟩ := hsame
    refine ⟨?_, q2⟩
    rw [X.same.1]
    refine q1.trans ?_
    show ({ (s.setFrames U.frames) with heap := U.heap, slotsUsed := U.slotsUsed } : State) = ({ ((s.setFrames (T.setVm s.vm).frames).setFrames U.frames) with heap := U.heap, slotsUsed := U.slotsUsed } : State)
    rw [State.setFrames_setFrames]
  exact (X.same.trans h9).mono hf.1 hf.2
end
