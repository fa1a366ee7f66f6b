/-! a call of a method that may throw: into it, and out of it by either way -/
theorem qx_weak {tb : Tables} {e : Env} {f : Frame} {below : List Frame} {a b : State} (h : Steps tb e (f :: below) a b) : Steps tb e below a b := by
  obtain ⟨n, hn, w⟩ := h
  exact ⟨n, hn, fun k hk => (w k hk).weaken (mid := [f])⟩
section
variable {p : Program} {l : Launch} {e : Env} {R : Room} {s : State} {m : MethodId} {args : Array Value} {below : List Frame} {meth : Method} {c : Code} {U : State} {locs : List Loc} {cells slots : Nat}
theorem qx_in {G : qG} {y : MethodName} {cy : ByteArray} {nY : Nat} {ret : Option FieldType} {rm : Room} {av : List Value} {wc : va_W} {post : Option Value → va_W → Prop} {postT : String → va_W → Prop} {g : JFrame} {ig : Instr} {mk : MethodId}
    (X : Stand p l e R s m args below meth c U locs cells slots) (hg : g.method = m) (hsize : g.locals.size = c.maxLocals) (hdg : decode c.code g.pc = .ok (ig, 3)) (hnamed : s.methodNamed? y = some mk) (hcode : (Cond.code y cy nY ret).before args s = true) (hpn : plainName y.cls = true)
    (hM : qXM l G y cy nY ret rm av wc post postT) (hroom : rm.frames + 1 ≤ R.frames ∧ 8 + (nY + 11) + rm.locals ≤ R.locals) (hW : 2 * g.monitorRoom + (g.stack.map fun v => v.category).sum ≤ 8) (hf : cells + rm.cells ≤ R.cells ∧ slots + rm.slots ≤ R.slots)
    (hexec : p.tables.exec = Jvm.exec) (htr : e.platform.stackTraces = false) (hPc : va_P G.1 vwCl wc U.heap) (hDc : va_D (fun _ => True) wc) (hK : qK G s) (hE : qE (va_A wc U.heap.size) (U.calling g mk av.toArray)) :
    (∃ (v : Option Value) (ws' : va_W) (T' : State) (L : List Loc), post v ws' ∧ va_P G.1 vwCl ws' T'.heap ∧ va_D (va_A wc U.heap.size) ws' ∧ va_F (va_A wc U.heap.size) U T' ∧ Stand p l e R s m args below meth c T' (locs ++ L) (cells + rm.cells) (slots + rm.slots) ∧ (∀ q ∈ L, va_A wc U.heap.size q.base) ∧
      ∀ acts, Steps p.tables e below (doInvoke e (U.setTop g) acts mk av.toArray).1 (T'.setTop { g with pc := g.pc + 3, stack := v.toList ++ g.stack })) ∨
    (∃ (x : Addr) (E' : String) (ws' : va_W) (cell : Cell) (T' : State) (L : List Loc), postT E' ws' ∧ va_P G.1 vwCl ws' T'.heap ∧ va_D (va_A wc U.heap.size) ws' ∧ va_F (va_A wc U.heap.size) U T' ∧ T'.heap[x]? = some cell ∧ s.vm.findClass E' = some cell.cls ∧ cell.vm = .none ∧
      Stand p l e R s m args below meth c T' (locs ++ L) (cells + rm.cells) (slots + rm.slots) ∧ (∀ q ∈ L, va_A wc U.heap.size q.base) ∧ ∀ acts, Steps p.tables e below (doInvoke e (U.setTop g) acts mk av.toArray).1 ((T'.setTop g).pushFrame (.throwing x))) := by
  obtain ⟨methk, ck, hm, hc, hb, hml, hret, hlk, hex, hsig⟩ := Cond.code_spec hnamed hcode
  have hmU : U.vm.method? mk = some methk := by rw [X.warmed.alike.method?]; exact hm
  obtain ⟨kY, hkY, hnY⟩ := className_of_methodNamed hnamed
  have hplain : U.plainMethod mk := X.warmed.plainAt (fun k hk => by cases hkY.symm.trans hk; rw [hnY]; exact hpn)
  obtain ⟨Y, hin⟩ := X.into hg hsize hdg av.toArray (R' := rm) hmU hc hlk hplain hroom.1 (by rw [hml]; omega) hf.1 hf.2
  obtain ⟨t, st, h1, h2, h3, L, h4, h5, h6⟩ := hM p e (U.calling g mk av.toArray) mk (.java g :: below) methk ck _ Y rfl hexec hb hml (by
    have h0 : ck.exceptionTable.size = 0 := by simpa [Array.isEmpty] using hex
    exact List.eq_nil_of_length_eq_zero (by simpa using h0)) hret hlk (name_of_methodNamed hnamed hm).1 (by
      show U.vm.findClass y.cls = some mk.cls
      rw [X.warmed.alike.findClass]
      exact findClass_of_methodNamed hnamed) htr hPc hDc (hK.warm (s := s) (U := U.calling g mk av.toArray) X.warmed) hE
  rw [← hml] at st
  have hst : ∀ acts, Steps p.tables e below (doInvoke e (U.setTop g) acts mk av.toArray).1 t := fun acts => by
    rw [hin acts]
    exact qx_weak st
  rcases h6 with ⟨v, ws', g1, g2, g3, g4⟩ | ⟨x, E', ws', cell, g1, g2, g3, g4, g5, g6, g7⟩
  · obtain ⟨T', X', _, _, ht⟩ := X.outOf hg hdg g1 h2 h4
    have hh : t.heap = T'.heap := by rw [ht]; rfl
    refine Or.inl ⟨v, ws', T', L, g2, by rw [← hh]; exact g3, g4, ⟨by rw [← hh]; exact h3.1, fun q a b => by rw [← hh]; exact h3.2 q a b⟩, X', h5, fun acts => ?_⟩
    rw [← ht]
    exact hst acts
  · obtain ⟨T', X', _, _, ht⟩ := X.outOfThrown hg g1 h2 h4
    have hh : t.heap = T'.heap := by rw [ht]; rfl
    refine Or.inr ⟨x, E', ws', cell, T', L, g2, by rw [← hh]; exact g3, g4, ⟨by rw [← hh]; exact h3.1, fun q a b => by rw [← hh]; exact h3.2 q a b⟩, by rw [← hh]; exact g5, ?_, g7, X', h5, fun acts => ?_⟩
    · have g8 : U.vm.findClass E' = some cell.cls := g6
      rw [X.warmed.alike.findClass] at g8
      exact g8
    · rw [← ht]
      exact hst acts
end
