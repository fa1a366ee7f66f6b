/-! the row of a call that may throw, with the caller's handlers -/
theorem qE.down {A : Nat → Prop} {s U : State} {wc : va_W} {g : JFrame} {mk : MethodId} {a : Array Value} (h : qE A s) (hW : s.WarmedH U.vm) (hz : s.heap.size ≤ U.heap.size) (hh : ∀ q, q < s.heap.size → ¬ A q → U.heap[q]? = s.heap[q]?) (hF : ∀ q, va_A wc U.heap.size q → A q) : qE (va_A wc U.heap.size) (U.calling g mk a) := by
  refine ⟨fun V hV hv w hw b => h.1 V (State.WarmedH.trans hW hV) (fun q h1 h2 => (hv q (Nat.lt_of_lt_of_le h1 hz) (fun z => h2 (hF q z))).trans (hh q h1 h2)) w hw b, fun x hx => ?_, fun x hx cE cN h1 h2 => ?_⟩
  · obtain ⟨q, hq⟩ := h.2.1 x hx
    exact ⟨q, vk_R.warm (U := U.calling g mk a) hW hq⟩
  · have g1 : U.vm.findClass x.1 = some cE := h1
    have g2 : U.vm.findClass x.2 = some cN := h2
    rw [hW.alike.findClass] at g1 g2
    show U.vm.assignable cE cN = false
    rw [hW.alike.assignable]
    exact h.2.2 x hx cE cN g1 g2
theorem qx_pick : ∀ (w : va_W) (is : List Nat) (w' : va_W), is.map (fun i => w[i]?) = w'.map some → is.filterMap (fun i => w[i]?) = w' := by
  intro w is
  induction is with
  | nil => intro w' h; cases w' with
    | nil => rfl
    | cons a b => cases h
  | cons i is ih => intro w' h; cases w' with
    | nil => cases h
    | cons a b =>
      rw [List.map_cons, List.map_cons, List.cons.injEq] at h
      rw [List.filterMap_cons, h.1, ih b h.2]
section
variable {p : Program} {l : Launch} {e : Env} {R : Room} {s : State} {m : MethodId} {args : Array Value} {below : List Frame} {meth : Method} {c : Code} {G : qG} {A : Nat → Prop} {nL : Nat} {Q : State → Prop} {cells slots : Nat} {ws : va_W} {lv : List (Nat × Value)} {pc : Nat} {st rest : List Value} {cc : ByteArray} {own : String}
variable {y : MethodName} {cy : ByteArray} {nY n : Nat} {ret : Option FieldType} {rm : Room} {index : Nat}
theorem qx_cV {wc wr : va_W} {post : Option Value → va_W → Prop} {postT : String → va_W → Prop} {As : List Value} {b : Nat} (C : qC p s m c cc own G A s.heap nL) (hE : qE A s) (htr : e.platform.stackTraces = false) (hY : qY y cy nY ret n) (hpn : plainName y.cls = true) (hM : qXM l G y cy nY ret rm (.ref b :: As) wc post postT)
    (hl : Cond.methodLink own index y ∈ qTbl) (hin : Cond.instanceMethod y ∈ qTbl) (hsel : Cond.selects y.cls y y ∈ qTbl) (q0 : Nat) {ci N : Nat} {T : u_T} {fs : List Value} (he : wc[q0]? = some (b, .inr (ci, fs))) (hc : vwCl[ci]? = some (y.cls, T, N))
    (hroom : rm.frames + 1 ≤ R.frames ∧ 8 + (nY + 11) + rm.locals ≤ R.locals) (hdg : decode cc pc = .ok (.invokevirtual index, 3)) (hst : st = As.reverse ++ .ref b :: rest) (hn : As.length = n) (hw : (rest.map fun v => v.category).sum ≤ 8) (hf : cells + rm.cells ≤ R.cells ∧ slots + rm.slots ≤ R.slots)
    (isC isR : List Nat) (hC : isC.map (fun i => ws[i]?) = wc.map some) (hCn : va_nd isC = true) (hR : isR.map (fun i => ws[i]?) = wr.map some) (hRn : va_nd isR = true) (hdis : ∀ i ∈ isR, i ∉ isC)
    (k : ∀ (v : Option Value) (ws' : va_W), post v ws' → qV p l e R s m args below meth c G A s.heap nL Q (cells + rm.cells) (slots + rm.slots) (wr ++ ws') lv (pc + 3) (v.toList ++ rest))
    (kT : ∀ (E' : String) (ws' : va_W), postT E' ws' → ∃ (es : List (ExceptionTableEntry × String)) (x : ExceptionTableEntry) (nm : String) (tlr : List ExceptionTableEntry), c.exceptionTable.toList = es.map (·.1) ++ x :: tlr ∧ covers x pc = true ∧ x.catchType ≠ 0 ∧ Cond.classLink own x.catchType nm ∈ qTbl ∧ (∀ cE cN, s.vm.findClass E' = some cE → s.vm.findClass nm = some cN → s.vm.assignable cE cN = true) ∧
      (∀ z ∈ es, covers z.1 pc = true ∧ z.1.catchType ≠ 0 ∧ Cond.classLink own z.1.catchType z.2 ∈ qTbl ∧ ∀ cE cN, s.vm.findClass E' = some cE → s.vm.findClass z.2 = some cN → s.vm.assignable cE cN = false) ∧
      ∀ a : Nat, qV p l e R s m args below meth c G A s.heap nL Q (cells + rm.cells) (slots + rm.slots) (wr ++ ws') lv x.handlerPc [.ref a]) : qV p l e R s m args below meth c G A s.heap nL Q cells slots ws lv pc st := by
  intro H locs ls hP hD hS hlo Tt hT X
  subst hT
  have hF := va_free (wc := wc) hD hS C.2.2.2.2.2 isC hC
  have hPc := hP.sub isC (qx_pick _ _ _ hC)
  have hDc : va_D (fun _ => True) wc := (hD.sub isC hCn hC).weaken (fun _ _ _ _ => trivial)
  have hK := C.2.2.2.2.1
  obtain ⟨cellB, hcB, hoB, hclB⟩ := va_recv hK.1 hPc hc he
  have hcode : (Cond.code y cy nY ret).before args s = true := hK.word hY.1
  obtain ⟨mk, methM, hnamed, hmethM, hstM, habM⟩ := Cond.instanceMethod_spec (hK.word (a := args) hin)
  obtain ⟨methM', cM, hmethM', -, -, -, -, -, -, hsigM⟩ := Cond.code_spec hnamed hcode
  cases hmethM.symm.trans hmethM'
  obtain ⟨c2, r2, m2, q1, q2, q3, q4, kP, hkP, hkPi⟩ := Cond.selects_spec (hK.word (a := args) hsel)
  cases hclB.symm.trans q1
  cases (State.methodFound?_of_named hnamed hY.2.2.1).symm.trans q2
  cases hnamed.symm.trans q3
  have hselP : selectMethod e.platform s.vm cellB.cls mk = .method mk := by rw [Launch.admits_selectMethod X.admits]; exact q4
  have hlen : As.length = methM.sig.parameters.length := by
    have h2 := hY.2.2.2
    rw [hsigM] at h2
    exact hn.trans (Option.some.inj h2).symm
  obtain ⟨vm₁, X₁, hstep₁⟩ := X.invokevirtual C.1 C.2.2.2.1 (hK.word hl) hnamed hmethM hstM hkP hkPi hY.2.2.1 (a := b) (cell := cellB) hcB (fun z h => by rw [h] at hoB; cases hoB) hselP hmethM habM hkP hkPi (g := F0 m pc ls st) rfl (argsL := As) (rest := rest) hlen hst (by rw [C.2.1]; exact hdg)
  have hres := qx_in (G := G) X₁ (g := { F0 m pc ls st with stack := rest }) rfl (hlo.1.trans C.2.2.1.symm) (by rw [C.2.1]; exact hdg) hnamed hcode hpn hM hroom (lv_room (m := m) (pc := pc) (ls := ls) (rest := rest) hw) hf C.1 htr hPc hDc hK (hE.down (U := Tt.setVm vm₁) X₁.warmed hS.1 hS.2.1 hF)
  have hS' : ∀ (T' : State) (L : List Loc), va_F (va_A wc Tt.heap.size) (Tt.setVm vm₁) T' → (∀ q ∈ L, va_A wc Tt.heap.size q.base) → va_S A s.heap T'.heap (locs ++ L) := fun T' L hv hL =>
    ⟨Nat.le_trans hS.1 hv.1, fun q h1 h2 => (hv.2 q (Nat.lt_of_lt_of_le h1 hS.1) (fun z => h2 (hF q z))).trans (hS.2.1 q h1 h2), fun q hq => by
      rcases List.mem_append.mp hq with h | h
      · exact hS.2.2 q h
      · exact hF _ (hL q h)⟩
  rcases hres with ⟨v, ws', T', L, g1, g2, g3, g4, X', g5, g6⟩ | ⟨x, E', ws', cell, T', L, g1, g2, g3, g4, g5, g6, g7, X', g8, g9⟩
  · obtain ⟨hP9, hD9⟩ := va_join hP hD isC isR hC hR hRn hdis g4.2 hF g2 g3
    obtain ⟨t2, a1, b1⟩ := k v ws' g1 T'.heap (locs ++ L) ls hP9 hD9 (hS' T' L g4 g5) hlo T' rfl X'
    exact ⟨t2, hstep₁ _ (fun acts => (g6 acts).trans a1), b1⟩
  · obtain ⟨hP9, hD9⟩ := va_join hP hD isC isR hC hR hRn hdis g4.2 hF g2 g3
    obtain ⟨es, xe, nm, tlr, h1, h2, h3, h4, h5, h6, h7⟩ := kT E' ws' g1
    obtain ⟨vm', X'', h8⟩ := qx_caught X' C.2.2.2.1 (g := { F0 m pc ls st with stack := rest }) rfl g5 g7 (Vm.classAt_of_findClass g6) es h1 h2 h3 (hK.word h4) (fun cN hcN => h5 _ _ g6 hcN) (fun z hz => ⟨(h6 z hz).1, (h6 z hz).2.1, hK.word (h6 z hz).2.2.1, fun cN hcN => (h6 z hz).2.2.2 _ _ g6 hcN⟩)
    obtain ⟨t2, a1, b1⟩ := h7 x T'.heap (locs ++ L) ls hP9 hD9 (hS' T' L g4 g8) hlo (T'.setVm vm') rfl X''
    exact ⟨t2, hstep₁ _ (fun acts => (g9 acts).trans (h8 _ a1)), b1⟩
end
