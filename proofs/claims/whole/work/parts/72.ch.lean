/-! the row of the law's call of a helper -/
section
variable {p : Program} {l : Launch} {e : Env} {R : Room} {s : State} {m : MethodId} {args : Array Value} {below : List Frame} {meth : Method} {c : Code} {G : qG} {A : Nat → Prop} {nL : Nat} {Q : State → Prop} {cells slots : Nat} {ws : va_W} {lv : List (Nat × Value)} {pc : Nat} {st rest : List Value} {cc : ByteArray} {own : String}
variable {y : MethodName} {cy : ByteArray} {nY n : Nat} {ret : Option FieldType} {rm : Room} {index : Nat} {tb : List (Nat × Nat × Nat × Nat)}
theorem qx_cH {wc wr : va_W} {post : Option Value → va_W → Prop} {As : List Value} (C : qC p s m c cc own G A s.heap nL) (hE : qE A s) (htr : e.platform.stackTraces = false) (hcw : Cond.codeWith y cy nY ret tb ∈ qTbl) (hini : Cond.initialized y.cls ∈ qTbl) (hnp : y.cls ≠ "java/lang/invoke/MethodHandle" ∧ y.cls ≠ "java/lang/invoke/VarHandle") (hna : (parseMethodDescriptor y.desc).map (fun d => d.parameters.length) = some n) (hpn : plainName y.cls = true)
    (hM : qH l G y cy nY ret tb rm As wc post) (hl : Cond.methodLink own index y ∈ qTbl) (hstt : Cond.static y ∈ qTbl)
    (hroom : rm.frames + 1 ≤ R.frames ∧ 8 + (nY + 11) + rm.locals ≤ R.locals) (hdg : decode cc pc = .ok (.invokestatic index, 3)) (hst : st = As.reverse ++ rest) (hn : As.length = n) (hw : (rest.map fun v => v.category).sum ≤ 8) (hf : cells + rm.cells ≤ R.cells ∧ slots + rm.slots ≤ R.slots)
    (isC isR : List Nat) (hC : isC.map (fun i => ws[i]?) = wc.map some) (hCn : va_nd isC = true) (hR : isR.map (fun i => ws[i]?) = wr.map some) (hRn : va_nd isR = true) (hdis : ∀ i ∈ isR, i ∉ isC)
    (k : ∀ (v : Option Value) (ws' : va_W), post v ws' → qV p l e R s m args below meth c G A s.heap nL Q (cells + rm.cells) (slots + rm.slots) (wr ++ ws') lv (pc + 3) (v.toList ++ rest)) : qV p l e R s m args below meth c G A s.heap nL Q cells slots ws lv pc st := by
  intro H locs ls hP hD hS hlo Tt hT X
  subst hT
  have hF := va_free (wc := wc) hD hS C.2.2.2.2.2 isC hC
  have hPc := hP.sub isC (qx_pick _ _ _ hC)
  have hDc : va_D (fun _ => True) wc := (hD.sub isC hCn hC).weaken (fun _ _ _ _ => trivial)
  have hK := C.2.2.2.2.1
  obtain ⟨mk, methk, ck, hnamed, hm, hc, hb, hml, htab, hret, hlk, hsig⟩ := Cond.codeWith_spec (hK.word (a := args) hcw)
  have hstatic : methk.isStatic = true := Cond.static_spec hnamed hm (hK.word (a := args) hstt)
  obtain ⟨kP, hkP, hnY⟩ := className_of_methodNamed hnamed
  have hinitP : kP.init = .initialized := Cond.initialized_spec (findClass_of_methodNamed hnamed) hkP (hK.word (a := args) hini)
  have hlen : As.length = methk.sig.parameters.length := by
    rw [hsig] at hna
    exact hn.trans (Option.some.inj hna).symm
  obtain ⟨vm₁, X₁, hstep₁⟩ := X.invokestatic C.1 C.2.2.2.1 (hK.word hl) hnamed hm hstatic hkP hinitP hnp (g := F0 m pc ls st) rfl (argsL := As) (rest := rest) hlen hst (by rw [C.2.1]; exact hdg)
  have hmU : (Tt.setVm vm₁).vm.method? mk = some methk := by rw [X₁.warmed.alike.method?]; exact hm
  have hplain : (Tt.setVm vm₁).plainMethod mk := X₁.warmed.plainAt (fun k hk => by cases hkP.symm.trans hk; rw [hnY]; exact hpn)
  have hdg' : decode c.code ({ F0 m pc ls st with stack := rest } : JFrame).pc = .ok (.invokestatic index, 3) := by rw [C.2.1]; exact hdg
  obtain ⟨Y, hin⟩ := X₁.into (g := { F0 m pc ls st with stack := rest }) rfl (hlo.1.trans C.2.2.1.symm) hdg' As.toArray (R' := rm) hmU hc hlk hplain hroom.1 (by
    rw [hml]
    have := lv_room (m := m) (pc := pc) (ls := ls) (rest := rest) hw
    have h9 : 2 * ({ F0 m pc ls st with stack := rest } : JFrame).monitorRoom + (rest.map fun v => v.category).sum ≤ 8 := this
    show 2 * ({ F0 m pc ls st with stack := rest } : JFrame).monitorRoom + (rest.map fun v => v.category).sum + (nY + 11) + rm.locals ≤ R.locals
    omega) hf.1 hf.2
  obtain ⟨t, st1, o, h1, h2, ⟨⟨v, ws', rfl, g2, g3, g4⟩, h3⟩, L, ⟨_, h4, h5⟩, h6⟩ := hM p e ((Tt.setVm vm₁).calling { F0 m pc ls st with stack := rest } mk As.toArray) mk (.java { F0 m pc ls st with stack := rest } :: below) methk ck _ Y rfl C.1 hb hml htab hret hlk (name_of_methodNamed hnamed hm).1 (by
      show (Tt.setVm vm₁).vm.findClass y.cls = some mk.cls
      rw [X₁.warmed.alike.findClass]
      exact findClass_of_methodNamed hnamed) htr hPc hDc (hK.warm (s := s) (U := (Tt.setVm vm₁).calling { F0 m pc ls st with stack := rest } mk As.toArray) X₁.warmed) (hE.down (U := Tt.setVm vm₁) X₁.warmed hS.1 hS.2.1 hF)
  rw [← hml] at st1
  obtain ⟨T', X', _, _, ht⟩ := X₁.outOf (g := { F0 m pc ls st with stack := rest }) rfl hdg' h2 h4 h5
  have hh : t.heap = T'.heap := by rw [ht]; rfl
  have g4' : va_F (va_A wc Tt.heap.size) (Tt.setVm vm₁) T' := ⟨by rw [← hh]; exact h3.1, fun q a b => by rw [← hh]; exact h3.2 q a b⟩
  obtain ⟨hP9, hD9⟩ := va_join hP hD isC isR hC hR hRn hdis g4'.2 hF (by rw [← hh]; exact g3) g4
  obtain ⟨t2, a1, b1⟩ := k v ws' g2 T'.heap (locs ++ L) ls hP9 hD9 ⟨Nat.le_trans hS.1 g4'.1, fun q h1 h2 => (g4'.2 q (Nat.lt_of_lt_of_le h1 hS.1) (fun z => h2 (hF q z))).trans (hS.2.1 q h1 h2), fun q hq => by
      rcases List.mem_append.mp hq with h | h
      · exact hS.2.2 q h
      · exact hF _ (h6 q h)⟩ hlo T' rfl X'
  refine ⟨t2, hstep₁ _ (fun acts => ?_), b1⟩
  rw [hin acts]
  refine (qx_weak st1).trans ?_
  rw [ht]
  exact a1
end
