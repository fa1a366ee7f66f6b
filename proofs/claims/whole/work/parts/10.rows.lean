/-! numbers by their value; the judgement qV -/
def qI (z : Int) : Int32 := Int32.ofInt z
def qL (z : Int) : Int64 := Int64.ofInt z
theorem qI_int {z : Int} (h : -2147483648 ≤ z ∧ z ≤ 2147483647) : (qI z).toInt = z := Int32.toInt_ofInt_of_le (by omega) (by omega)
theorem qL_int {z : Int} (h : -9223372036854775808 ≤ z ∧ z ≤ 9223372036854775807) : (qL z).toInt = z := Int64.toInt_ofInt_of_le (by omega) (by omega)
theorem qI_of (x : Int32) : qI x.toInt = x := Int32.ofInt_toInt x
theorem qL_of (x : Int64) : qL x.toInt = x := Int64.ofInt_toInt x
theorem qI_r0 : (-2147483648 : Int) ≤ 0 ∧ (0 : Int) ≤ 2147483647 := by omega
theorem qI_rx (x : Int32) : -2147483648 ≤ x.toInt ∧ x.toInt ≤ 2147483647 := by
  have h1 := x.le_toInt
  have h2 := x.toInt_lt
  omega
theorem qL_rx (x : Int64) : -9223372036854775808 ≤ x.toInt ∧ x.toInt ≤ 9223372036854775807 := by
  have h1 := x.le_toInt
  have h2 := x.toInt_lt
  omega
theorem qI_add (a b : Int) : qI a + qI b = qI (a + b) := (Int32.ofInt_add a b).symm
theorem qI_sub (a b : Int) : qI a - qI b = qI (a - b) := (Int32.ofInt_sub a b).symm
theorem qI_mul (a b : Int) : qI a * qI b = qI (a * b) := (Int32.ofInt_mul a b).symm
theorem qI_neg (a : Int) : -qI a = qI (-a) := Int32.neg_ofInt
theorem qL_add (a b : Int) : qL a + qL b = qL (a + b) := (Int64.ofInt_add a b).symm
theorem qL_sub (a b : Int) : qL a - qL b = qL (a - b) := (Int64.ofInt_sub a b).symm
theorem qL_mul (a b : Int) : qL a * qL b = qL (a * b) := (Int64.ofInt_mul a b).symm
theorem qI_lt {a b : Int} (ha : -2147483648 ≤ a ∧ a ≤ 2147483647) (hb : -2147483648 ≤ b ∧ b ≤ 2147483647) : qI a < qI b ↔ a < b := by
  rw [Int32.lt_iff_toInt_lt, qI_int ha, qI_int hb]
theorem qI_le {a b : Int} (ha : -2147483648 ≤ a ∧ a ≤ 2147483647) (hb : -2147483648 ≤ b ∧ b ≤ 2147483647) : qI a ≤ qI b ↔ a ≤ b := by
  rw [Int32.le_iff_toInt_le, qI_int ha, qI_int hb]
theorem qI_eq {a b : Int} (ha : -2147483648 ≤ a ∧ a ≤ 2147483647) (hb : -2147483648 ≤ b ∧ b ≤ 2147483647) : qI a = qI b ↔ a = b := by
  rw [← Int32.toInt_inj, qI_int ha, qI_int hb]
theorem qL_lt {a b : Int} (ha : -9223372036854775808 ≤ a ∧ a ≤ 9223372036854775807) (hb : -9223372036854775808 ≤ b ∧ b ≤ 9223372036854775807) : qL a < qL b ↔ a < b := by
  rw [Int64.lt_iff_toInt_lt, qL_int ha, qL_int hb]
theorem qL_le {a b : Int} (ha : -9223372036854775808 ≤ a ∧ a ≤ 9223372036854775807) (hb : -9223372036854775808 ≤ b ∧ b ≤ 9223372036854775807) : qL a ≤ qL b ↔ a ≤ b := by
  rw [Int64.le_iff_toInt_le, qL_int ha, qL_int hb]
theorem qL_eq {a b : Int} (ha : -9223372036854775808 ≤ a ∧ a ≤ 9223372036854775807) (hb : -9223372036854775808 ≤ b ∧ b ≤ 9223372036854775807) : qL a = qL b ↔ a = b := by
  rw [← Int64.toInt_inj, qL_int ha, qL_int hb]
theorem qI_toL {a : Int} (ha : -2147483648 ≤ a ∧ a ≤ 2147483647) : (qI a).toInt64 = qL a := by
  rw [← Int64.toInt_inj, Int32.toInt_toInt64, qI_int ha, qL_int (by omega)]
theorem qL_toI (a : Int) : (qL a).toInt32 = qI a := Int64.toInt32_ofInt
theorem qI_ne0 {a : Int} (ha : -2147483648 ≤ a ∧ a ≤ 2147483647) (h : a ≠ 0) : ¬ qI a = 0 := fun q => h ((qI_eq ha qI_r0).mp q)
theorem qL_ne0 {a : Int} (ha : -9223372036854775808 ≤ a ∧ a ≤ 9223372036854775807) (h : a ≠ 0) : ¬ qL a = 0 := fun q => h ((qL_eq ha (by omega)).mp (q.trans (show (0 : Int64) = qL 0 from rfl)))
theorem qI_div {a b : Int} (ha : 0 ≤ a ∧ a ≤ 2147483647) (hb : 0 < b ∧ b ≤ 2147483647) : qI a / qI b = qI (a / b) := by
  have h1 : ¬ qI b = -1 := fun q => by
    have h2 : qI b = qI (-1) := q
    have h3 := (qI_eq (by omega) (by omega)).mp h2
    omega
  have h4 : 0 ≤ a / b := Int.ediv_nonneg ha.1 (by omega)
  have h5 : a / b ≤ a := Int.ediv_le_self _ ha.1
  rw [← Int32.toInt_inj, Int32.toInt_div_of_ne_right _ _ h1, qI_int (by omega), qI_int (by omega), qI_int (by omega), Int.tdiv_eq_ediv_of_nonneg ha.1]
theorem qL_div {a b : Int} (ha : 0 ≤ a ∧ a ≤ 9223372036854775807) (hb : 0 < b ∧ b ≤ 9223372036854775807) : qL a / qL b = qL (a / b) := by
  have h1 : ¬ qL b = -1 := fun q => by
    have h2 : qL b = qL (-1) := q
    have h3 := (qL_eq (by omega) (by omega)).mp h2
    omega
  have h4 : 0 ≤ a / b := Int.ediv_nonneg ha.1 (by omega)
  have h5 : a / b ≤ a := Int.ediv_le_self _ ha.1
  rw [← Int64.toInt_inj, Int64.toInt_div_of_ne_right _ _ h1, qL_int (by omega), qL_int (by omega), qL_int (by omega), Int.tdiv_eq_ediv_of_nonneg ha.1]
theorem qI_nat {z : Int} (h : 0 ≤ z) : qI z = nI z.toNat := by
  show Int32.ofInt z = Int32.ofNat z.toNat
  rw [← Int32.ofInt_eq_ofNat, Int.toNat_of_nonneg h]
theorem qI_nc {x : Int} (hx : 0 ≤ x ∧ x ≤ 65535) : vp_nar .char (qI x) = qI x := by
  rw [qI_nat hx.1]
  unfold vp_nar
  rw [(pk_charN (q := x.toNat) (by omega)).1]
theorem qI_nz {x : Int} (hx : 0 ≤ x ∧ x ≤ 1) : vp_nar .boolean (qI x) = qI x := by
  rcases (show x = 0 ∨ x = 1 by omega) with rfl | rfl <;> rfl
theorem qI_char {x : Int} (hx : 0 ≤ x ∧ x ≤ 65535) : ((qI x).toUInt32 % 65536).toInt32 = qI x := by
  have h := pk_charN (q := x.toNat) (by omega)
  rw [qI_nat hx.1, pk_char, pk_tn (by omega), Nat.mod_eq_of_lt (by omega)]
theorem qI_cl {i : Int} (h : 0 ≤ i ∧ i ≤ 2147483647) : ((qI i).toNatClampNeg : Int) = i := by
  rw [← Int32.toNat_toInt, qI_int (by omega), Int.toNat_of_nonneg h.1]
theorem qI_in {i : Int} {n : Nat} (h : 0 ≤ i ∧ i < n ∧ i ≤ 2147483647) : vp_in (qI i) n := by
  rw [vp_in_iff, qI_int (by omega)]
  omega
/-- an array's contents, and one place of them changed -/
def qA (f : Int → Int) : Nat → Int32 := fun j => qI (f (j : Int))
def qAl (f : Int → Int) : Nat → Int64 := fun j => qL (f (j : Int))
def qU (f : Int → Int) (i x : Int) : Int → Int := fun j => if j = i then x else f j
theorem qU_s (f : Int → Int) (i x : Int) : qU f i x i = x := by unfold qU; rw [if_pos rfl]
theorem qU_n {f : Int → Int} {i x j : Int} (h : ¬ j = i) : qU f i x j = f j := by unfold qU; rw [if_neg h]
theorem qA_at {f : Int → Int} {i : Int} {n : Nat} (h : 0 ≤ i ∧ i < n ∧ i ≤ 2147483647) : qA f (qI i).toNatClampNeg = qI (f i) := by
  unfold qA
  rw [qI_cl ⟨h.1, h.2.2⟩]
theorem qAl_at {f : Int → Int} {i : Int} {n : Nat} (h : 0 ≤ i ∧ i < n ∧ i ≤ 2147483647) : qAl f (qI i).toNatClampNeg = qL (f i) := by
  unfold qAl
  rw [qI_cl ⟨h.1, h.2.2⟩]
theorem qA_up {f : Int → Int} {i x : Int} {n : Nat} (h : 0 ≤ i ∧ i < n ∧ i ≤ 2147483647) : upd (qA f) (qI i).toNatClampNeg (qI x) = qA (qU f i x) := by
  funext j
  have h1 := qI_cl ⟨h.1, h.2.2⟩
  unfold upd qA qU
  by_cases hj : j = (qI i).toNatClampNeg
  · rw [if_pos hj, if_pos (by omega)]
  · rw [if_neg hj, if_neg (by omega)]
theorem qAl_up {f : Int → Int} {i x : Int} {n : Nat} (h : 0 ≤ i ∧ i < n ∧ i ≤ 2147483647) : vp_updL (qAl f) (qI i).toNatClampNeg (qL x) = qAl (qU f i x) := by
  funext j
  have h1 := qI_cl ⟨h.1, h.2.2⟩
  unfold vp_updL qAl qU
  by_cases hj : j = (qI i).toNatClampNeg
  · rw [if_pos hj, if_pos (by omega)]
  · rw [if_neg hj, if_neg (by omega)]
/-- the classes' numbers and slots, and the four array classes -/
abbrev qG : Type := va_G × ClassId × ClassId × ClassId × ClassId
abbrev qtys (G : qG) : List (ClassId × FieldType) := [(G.2.1, .int), (G.2.2.1, .char), (G.2.2.2.1, .boolean), (G.2.2.2.2, .long)]
def qK (G : qG) (U : State) : Prop := va_K G.1 vwCl (qtys G) U ∧ (∀ w ∈ qTbl, va_Nw w U) ∧ ∀ ty ∈ ([.int, .char, .boolean, .long] : List FieldType), ∀ a : Array Value, (Cond.arrayClass ty).before a U = true
theorem qK.word {G : qG} {s : State} (h : qK G s) {w : Cond} (hw : w ∈ qTbl) {a : Array Value} : w.before a s = true :=
  va_Nw.use (qok_on (qTbl_ok w hw)) (h.2.1 w hw)
theorem qok_warm {w : Cond} (hq : qok w = true) {s U : State} (hW : s.WarmedH U.vm) (h : va_Nw w s) : va_Nw w U := by
  cases w <;> first | exact va_Nw.warmF hW h | exact va_Nw.warmM hW h | exact word_at hW (Or.inl hq) h
theorem qK.warm {G : qG} {s U : State} (h : qK G s) (hW : s.WarmedH U.vm) : qK G U :=
  ⟨va_K.moved hW.alike h.1, fun w hw => qok_warm (qTbl_ok w hw) hW (h.2.1 w hw), fun ty hty a => word_at hW (Or.inr ⟨ty, rfl⟩) (h.2.2 ty hty #[])⟩
theorem qK.blind {G : qG} {U : State} (h : qK G U) (g : JFrame) (mk : MethodId) (a : Array Value) : qK G (U.calling g mk a) :=
  h.warm (s := U) (U := U.calling g mk a) (State.WarmedH.refl U)
/-- what a walk keeps -/
def qC (p : Program) (s : State) (m : MethodId) (c : Code) (cc : ByteArray) (own : String) (G : qG) (A : Nat → Prop) (H0 : Heap) (nL : Nat) : Prop :=
  p.tables.exec = Jvm.exec ∧ c.code = cc ∧ c.maxLocals = nL ∧ s.vm.findClass own = some m.cls ∧ qK G s ∧ ∀ q, H0.size ≤ q → A q
/-- from every heap that holds the cells ws, at pc with the locals lv and the stack st, the walk comes to a state with Q -/
def qV (p : Program) (l : Launch) (e : Env) (R : Room) (s : State) (m : MethodId) (args : Array Value) (below : List Frame) (meth : Method) (c : Code) (G : qG) (A : Nat → Prop) (H0 : Heap) (nL : Nat) (Q : State → Prop) (cells slots : Nat) (ws : va_W) (lv : List (Nat × Value)) (pc : Nat) (st : List Value) : Prop :=
  ∀ (H : Heap) (locs : List Loc) (ls : Array Slot), va_P G.1 vwCl ws H → va_D A ws → va_S A H0 H locs → lv_has ls nL lv → W p l e R s m args below meth c H locs cells slots Q (F0 m pc ls st)

section
variable {p : Program} {l : Launch} {e : Env} {R : Room} {s : State} {m : MethodId} {args : Array Value} {below : List Frame} {meth : Method} {c : Code} {G : qG} {A : Nat → Prop} {H0 : Heap} {nL : Nat} {Q : State → Prop} {cells slots : Nat} {ws : va_W} {lv : List (Nat × Value)} {pc : Nat} {st rest : List Value} {cc : ByteArray} {own : String}
theorem qv_iconst (C : qC p s m c cc own G A H0 nL) {n : Int} (hdg : decode cc pc = .ok (.iconst n, 1))
    (k : qV p l e R s m args below meth c G A H0 nL Q cells slots ws lv (pc + 1) (.int (qI n) :: st)) : qV p l e R s m args below meth c G A H0 nL Q cells slots ws lv pc st :=
  fun H locs ls hP hD hS hl => lv_iconst C.1 C.2.1 hdg rfl (k H locs ls hP hD hS hl)
theorem qv_bipush (C : qC p s m c cc own G A H0 nL) {n : Int} (hdg : decode cc pc = .ok (.bipush n, 2)) (hv : (Int8.ofInt n).toInt32 = qI n)
    (k : qV p l e R s m args below meth c G A H0 nL Q cells slots ws lv (pc + 2) (.int (qI n) :: st)) : qV p l e R s m args below meth c G A H0 nL Q cells slots ws lv pc st :=
  fun H locs ls hP hD hS hl => lv_bipush C.1 C.2.1 hdg hv (k H locs ls hP hD hS hl)
theorem qv_sipush (C : qC p s m c cc own G A H0 nL) {n : Int} (hdg : decode cc pc = .ok (.sipush n, 3)) (hv : (Int16.ofInt n).toInt32 = qI n)
    (k : qV p l e R s m args below meth c G A H0 nL Q cells slots ws lv (pc + 3) (.int (qI n) :: st)) : qV p l e R s m args below meth c G A H0 nL Q cells slots ws lv pc st :=
  fun H locs ls hP hD hS hl => lv_sipush C.1 C.2.1 hdg hv (k H locs ls hP hD hS hl)
theorem qv_lconst (C : qC p s m c cc own G A H0 nL) {n : Fin 2} {z : Int} (hdg : decode cc pc = .ok (.lconst n, 1)) (hv : Int64.ofNat (n : Nat) = qL z)
    (k : qV p l e R s m args below meth c G A H0 nL Q cells slots ws lv (pc + 1) (.long (qL z) :: st)) : qV p l e R s m args below meth c G A H0 nL Q cells slots ws lv pc st :=
  fun H locs ls hP hD hS hl => lv_lconst C.1 C.2.1 hdg hv (k H locs ls hP hD hS hl)
theorem qv_ldc (C : qC p s m c cc own G A H0 nL) {index : Nat} {v : Int32} {n : Int} (hw : Jvm.Cond.constant own index v ∈ qTbl) (hv : v = qI n) (hdg : decode cc pc = .ok (.ldc index, 2))
    (k : qV p l e R s m args below meth c G A H0 nL Q cells slots ws lv (pc + 2) (.int (qI n) :: st)) : qV p l e R s m args below meth c G A H0 nL Q cells slots ws lv pc st :=
  fun H locs ls hP hD hS hl => lv_ldc C.1 C.2.1 C.2.2.2.1 (C.2.2.2.2.1.word (by rw [← hv]; exact hw)) hdg (k H locs ls hP hD hS hl)
theorem qv_ldc2 (C : qC p s m c cc own G A H0 nL) {index : Nat} {v : Int64} {n : Int} (hw : Jvm.Cond.constantLong own index v ∈ qTbl) (hv : v = qL n) (hdg : decode cc pc = .ok (.ldc2_w index, 3))
    (k : qV p l e R s m args below meth c G A H0 nL Q cells slots ws lv (pc + 3) (.long (qL n) :: st)) : qV p l e R s m args below meth c G A H0 nL Q cells slots ws lv pc st :=
  fun H locs ls hP hD hS hl => lv_ldc2 C.1 C.2.1 C.2.2.2.1 (C.2.2.2.2.1.word (by rw [← hv]; exact hw)) hdg (k H locs ls hP hD hS hl)
theorem qv_iload_n (C : qC p s m c cc own G A H0 nL) {k0 : Fin 4} {i : Nat} {x : Int32} (j : Nat) (hdg : decode cc pc = .ok (.iload_n k0, 1)) (hi : (k0 : Nat) = i) (hj : lv[j]? = some (i, .int x))
    (k : qV p l e R s m args below meth c G A H0 nL Q cells slots ws lv (pc + 1) (.int x :: st)) : qV p l e R s m args below meth c G A H0 nL Q cells slots ws lv pc st :=
  fun H locs ls hP hD hS hl => lv_iload_n C.1 C.2.1 hdg hi (lv_at hl j hj) (k H locs ls hP hD hS hl)
theorem qv_iload (C : qC p s m c cc own G A H0 nL) {i : Nat} {x : Int32} (j : Nat) (hdg : decode cc pc = .ok (.iload i, 2)) (hj : lv[j]? = some (i, .int x))
    (k : qV p l e R s m args below meth c G A H0 nL Q cells slots ws lv (pc + 2) (.int x :: st)) : qV p l e R s m args below meth c G A H0 nL Q cells slots ws lv pc st :=
  fun H locs ls hP hD hS hl => lv_iload C.1 C.2.1 hdg (lv_at hl j hj) (k H locs ls hP hD hS hl)
theorem qv_istore_n (C : qC p s m c cc own G A H0 nL) {k0 : Fin 4} {i : Nat} {x : Int32} {lv' : List (Nat × Value)} (hdg : decode cc pc = .ok (.istore_n k0, 1)) (hi : (k0 : Nat) = i) (hn : i < nL) (hlv : (i, Value.int x) :: lv.filter (fun q => !(q.1 == i) && !(q.1 + 1 == i && q.2.category == 2)) = lv')
    (k : qV p l e R s m args below meth c G A H0 nL Q cells slots ws (lv') (pc + 1) st) : qV p l e R s m args below meth c G A H0 nL Q cells slots ws lv pc (.int x :: st) :=
  fun H locs ls hP hD hS hl => lv_istore_n C.1 C.2.1 hdg hi hl hn hlv (fun ls' hl' => k H locs ls' hP hD hS hl')
theorem qv_istore (C : qC p s m c cc own G A H0 nL) {i : Nat} {x : Int32} {lv' : List (Nat × Value)} (hdg : decode cc pc = .ok (.istore i, 2)) (hn : i < nL) (hlv : (i, Value.int x) :: lv.filter (fun q => !(q.1 == i) && !(q.1 + 1 == i && q.2.category == 2)) = lv')
    (k : qV p l e R s m args below meth c G A H0 nL Q cells slots ws (lv') (pc + 2) st) : qV p l e R s m args below meth c G A H0 nL Q cells slots ws lv pc (.int x :: st) :=
  fun H locs ls hP hD hS hl => lv_istore C.1 C.2.1 hdg hl hn hlv (fun ls' hl' => k H locs ls' hP hD hS hl')
theorem qv_lload_n (C : qC p s m c cc own G A H0 nL) {k0 : Fin 4} {i : Nat} {x : Int64} (j : Nat) (hdg : decode cc pc = .ok (.lload_n k0, 1)) (hi : (k0 : Nat) = i) (hj : lv[j]? = some (i, .long x))
    (k : qV p l e R s m args below meth c G A H0 nL Q cells slots ws lv (pc + 1) (.long x :: st)) : qV p l e R s m args below meth c G A H0 nL Q cells slots ws lv pc st :=
  fun H locs ls hP hD hS hl => lv_lload_n C.1 C.2.1 hdg hi (lv_at hl j hj) (k H locs ls hP hD hS hl)
theorem qv_lload (C : qC p s m c cc own G A H0 nL) {i : Nat} {x : Int64} (j : Nat) (hdg : decode cc pc = .ok (.lload i, 2)) (hj : lv[j]? = some (i, .long x))
    (k : qV p l e R s m args below meth c G A H0 nL Q cells slots ws lv (pc + 2) (.long x :: st)) : qV p l e R s m args below meth c G A H0 nL Q cells slots ws lv pc st :=
  fun H locs ls hP hD hS hl => lv_lload C.1 C.2.1 hdg (lv_at hl j hj) (k H locs ls hP hD hS hl)
theorem qv_lstore_n (C : qC p s m c cc own G A H0 nL) {k0 : Fin 4} {i : Nat} {x : Int64} {lv' : List (Nat × Value)} (hdg : decode cc pc = .ok (.lstore_n k0, 1)) (hi : (k0 : Nat) = i) (hn : i + 1 < nL) (hlv : (i, Value.long x) :: lv.filter (fun q => !(q.1 == i) && (!(q.1 == i + 1) && !(q.1 + 1 == i && q.2.category == 2))) = lv')
    (k : qV p l e R s m args below meth c G A H0 nL Q cells slots ws (lv') (pc + 1) st) : qV p l e R s m args below meth c G A H0 nL Q cells slots ws lv pc (.long x :: st) :=
  fun H locs ls hP hD hS hl => lv_lstore_n C.1 C.2.1 hdg hi hl hn hlv (fun ls' hl' => k H locs ls' hP hD hS hl')
theorem qv_lstore (C : qC p s m c cc own G A H0 nL) {i : Nat} {x : Int64} {lv' : List (Nat × Value)} (hdg : decode cc pc = .ok (.lstore i, 2)) (hn : i + 1 < nL) (hlv : (i, Value.long x) :: lv.filter (fun q => !(q.1 == i) && (!(q.1 == i + 1) && !(q.1 + 1 == i && q.2.category == 2))) = lv')
    (k : qV p l e R s m args below meth c G A H0 nL Q cells slots ws (lv') (pc + 2) st) : qV p l e R s m args below meth c G A H0 nL Q cells slots ws lv pc (.long x :: st) :=
  fun H locs ls hP hD hS hl => lv_lstore C.1 C.2.1 hdg hl hn hlv (fun ls' hl' => k H locs ls' hP hD hS hl')
theorem qv_aload_n (C : qC p s m c cc own G A H0 nL) {k0 : Fin 4} {i : Nat} {x : Nat} (j : Nat) (hdg : decode cc pc = .ok (.aload_n k0, 1)) (hi : (k0 : Nat) = i) (hj : lv[j]? = some (i, .ref x))
    (k : qV p l e R s m args below meth c G A H0 nL Q cells slots ws lv (pc + 1) (.ref x :: st)) : qV p l e R s m args below meth c G A H0 nL Q cells slots ws lv pc st :=
  fun H locs ls hP hD hS hl => lv_aload_n C.1 C.2.1 hdg hi (lv_at hl j hj) (k H locs ls hP hD hS hl)
theorem qv_aload (C : qC p s m c cc own G A H0 nL) {i : Nat} {x : Nat} (j : Nat) (hdg : decode cc pc = .ok (.aload i, 2)) (hj : lv[j]? = some (i, .ref x))
    (k : qV p l e R s m args below meth c G A H0 nL Q cells slots ws lv (pc + 2) (.ref x :: st)) : qV p l e R s m args below meth c G A H0 nL Q cells slots ws lv pc st :=
  fun H locs ls hP hD hS hl => lv_aload C.1 C.2.1 hdg (lv_at hl j hj) (k H locs ls hP hD hS hl)
theorem qv_astore_n (C : qC p s m c cc own G A H0 nL) {k0 : Fin 4} {i : Nat} {x : Nat} {lv' : List (Nat × Value)} (hdg : decode cc pc = .ok (.astore_n k0, 1)) (hi : (k0 : Nat) = i) (hn : i < nL) (hlv : (i, Value.ref x) :: lv.filter (fun q => !(q.1 == i) && !(q.1 + 1 == i && q.2.category == 2)) = lv')
    (k : qV p l e R s m args below meth c G A H0 nL Q cells slots ws (lv') (pc + 1) st) : qV p l e R s m args below meth c G A H0 nL Q cells slots ws lv pc (.ref x :: st) :=
  fun H locs ls hP hD hS hl => lv_astore_n C.1 C.2.1 hdg hi hl hn hlv (fun ls' hl' => k H locs ls' hP hD hS hl')
theorem qv_astore (C : qC p s m c cc own G A H0 nL) {i : Nat} {x : Nat} {lv' : List (Nat × Value)} (hdg : decode cc pc = .ok (.astore i, 2)) (hn : i < nL) (hlv : (i, Value.ref x) :: lv.filter (fun q => !(q.1 == i) && !(q.1 + 1 == i && q.2.category == 2)) = lv')
    (k : qV p l e R s m args below meth c G A H0 nL Q cells slots ws (lv') (pc + 2) st) : qV p l e R s m args below meth c G A H0 nL Q cells slots ws lv pc (.ref x :: st) :=
  fun H locs ls hP hD hS hl => lv_astore C.1 C.2.1 hdg hl hn hlv (fun ls' hl' => k H locs ls' hP hD hS hl')
theorem qv_iinc (C : qC p s m c cc own G A H0 nL) {i : Nat} {x n : Int} {lv' : List (Nat × Value)} (j : Nat) (hdg : decode cc pc = .ok (.iinc i n, 3)) (hj : lv[j]? = some (i, .int (qI x))) (hn : i < nL) (hlv : (i, Value.int (qI (x + n))) :: lv.filter (fun q => !(q.1 == i) && !(q.1 + 1 == i && q.2.category == 2)) = lv')
    (k : qV p l e R s m args below meth c G A H0 nL Q cells slots ws (lv') (pc + 3) st) : qV p l e R s m args below meth c G A H0 nL Q cells slots ws lv pc st :=
  fun H locs ls hP hD hS hl => lv_iinc (k := j) C.1 C.2.1 hdg hl hj (qI_add x n) hn hlv (fun ls' hl' => k H locs ls' hP hD hS hl')
theorem qv_iadd (C : qC p s m c cc own G A H0 nL) {x y : Int} (hdg : decode cc pc = .ok (.iadd, 1))
    (k : qV p l e R s m args below meth c G A H0 nL Q cells slots ws lv (pc + 1) (.int (qI (x + y)) :: st)) : qV p l e R s m args below meth c G A H0 nL Q cells slots ws lv pc (.int (qI y) :: .int (qI x) :: st) :=
  fun H locs ls hP hD hS hl => lv_iadd C.1 C.2.1 hdg (by rw [qI_add]; exact k H locs ls hP hD hS hl)
theorem qv_ladd (C : qC p s m c cc own G A H0 nL) {x y : Int} (hdg : decode cc pc = .ok (.ladd, 1))
    (k : qV p l e R s m args below meth c G A H0 nL Q cells slots ws lv (pc + 1) (.long (qL (x + y)) :: st)) : qV p l e R s m args below meth c G A H0 nL Q cells slots ws lv pc (.long (qL y) :: .long (qL x) :: st) :=
  fun H locs ls hP hD hS hl => lv_ladd C.1 C.2.1 hdg (by rw [qL_add]; exact k H locs ls hP hD hS hl)
theorem qv_isub (C : qC p s m c cc own G A H0 nL) {x y : Int} (hdg : decode cc pc = .ok (.isub, 1))
    (k : qV p l e R s m args below meth c G A H0 nL Q cells slots ws lv (pc + 1) (.int (qI (x - y)) :: st)) : qV p l e R s m args below meth c G A H0 nL Q cells slots ws lv pc (.int (qI y) :: .int (qI x) :: st) :=
  fun H locs ls hP hD hS hl => lv_isub C.1 C.2.1 hdg (by rw [qI_sub]; exact k H locs ls hP hD hS hl)
theorem qv_lsub (C : qC p s m c cc own G A H0 nL) {x y : Int} (hdg : decode cc pc = .ok (.lsub, 1))
    (k : qV p l e R s m args below meth c G A H0 nL Q cells slots ws lv (pc + 1) (.long (qL (x - y)) :: st)) : qV p l e R s m args below meth c G A H0 nL Q cells slots ws lv pc (.long (qL y) :: .long (qL x) :: st) :=
  fun H locs ls hP hD hS hl => lv_lsub C.1 C.2.1 hdg (by rw [qL_sub]; exact k H locs ls hP hD hS hl)
theorem qv_imul (C : qC p s m c cc own G A H0 nL) {x y : Int} (hdg : decode cc pc = .ok (.imul, 1))
    (k : qV p l e R s m args below meth c G A H0 nL Q cells slots ws lv (pc + 1) (.int (qI (x * y)) :: st)) : qV p l e R s m args below meth c G A H0 nL Q cells slots ws lv pc (.int (qI y) :: .int (qI x) :: st) :=
  fun H locs ls hP hD hS hl => lv_imul C.1 C.2.1 hdg (by rw [qI_mul]; exact k H locs ls hP hD hS hl)
theorem qv_lmul (C : qC p s m c cc own G A H0 nL) {x y : Int} (hdg : decode cc pc = .ok (.lmul, 1))
    (k : qV p l e R s m args below meth c G A H0 nL Q cells slots ws lv (pc + 1) (.long (qL (x * y)) :: st)) : qV p l e R s m args below meth c G A H0 nL Q cells slots ws lv pc (.long (qL y) :: .long (qL x) :: st) :=
  fun H locs ls hP hD hS hl => lv_lmul C.1 C.2.1 hdg (by rw [qL_mul]; exact k H locs ls hP hD hS hl)
theorem qv_ineg (C : qC p s m c cc own G A H0 nL) {x : Int} (hdg : decode cc pc = .ok (.ineg, 1))
    (k : qV p l e R s m args below meth c G A H0 nL Q cells slots ws lv (pc + 1) (.int (qI (-x)) :: st)) : qV p l e R s m args below meth c G A H0 nL Q cells slots ws lv pc (.int (qI x) :: st) :=
  fun H locs ls hP hD hS hl => lv_ineg C.1 C.2.1 hdg (by rw [qI_neg]; exact k H locs ls hP hD hS hl)
theorem qv_idiv (C : qC p s m c cc own G A H0 nL) {x y : Int} (hx : 0 ≤ x ∧ x ≤ 2147483647) (hy : 0 < y ∧ y ≤ 2147483647) (hdg : decode cc pc = .ok (.idiv, 1))
    (k : qV p l e R s m args below meth c G A H0 nL Q cells slots ws lv (pc + 1) (.int (qI (x / y)) :: st)) : qV p l e R s m args below meth c G A H0 nL Q cells slots ws lv pc (.int (qI y) :: .int (qI x) :: st) :=
  fun H locs ls hP hD hS hl => lv_idiv C.1 C.2.1 hdg (qI_ne0 ⟨by omega, hy.2⟩ (by omega)) (by rw [qI_div hx hy]; exact k H locs ls hP hD hS hl)
theorem qv_ldiv (C : qC p s m c cc own G A H0 nL) {x y : Int} (hx : 0 ≤ x ∧ x ≤ 9223372036854775807) (hy : 0 < y ∧ y ≤ 9223372036854775807) (hdg : decode cc pc = .ok (.ldiv, 1))
    (k : qV p l e R s m args below meth c G A H0 nL Q cells slots ws lv (pc + 1) (.long (qL (x / y)) :: st)) : qV p l e R s m args below meth c G A H0 nL Q cells slots ws lv pc (.long (qL y) :: .long (qL x) :: st) :=
  fun H locs ls hP hD hS hl => lv_ldiv C.1 C.2.1 hdg (qL_ne0 ⟨by omega, hy.2⟩ (by omega)) (by rw [qL_div hx hy]; exact k H locs ls hP hD hS hl)
theorem qv_i2l (C : qC p s m c cc own G A H0 nL) {x : Int} (hx : -2147483648 ≤ x ∧ x ≤ 2147483647) (hdg : decode cc pc = .ok (.i2l, 1))
    (k : qV p l e R s m args below meth c G A H0 nL Q cells slots ws lv (pc + 1) (.long (qL x) :: st)) : qV p l e R s m args below meth c G A H0 nL Q cells slots ws lv pc (.int (qI x) :: st) :=
  fun H locs ls hP hD hS hl => lv_i2l C.1 C.2.1 hdg (qI_toL hx) (k H locs ls hP hD hS hl)
theorem qv_l2i (C : qC p s m c cc own G A H0 nL) {x : Int} (hdg : decode cc pc = .ok (.l2i, 1))
    (k : qV p l e R s m args below meth c G A H0 nL Q cells slots ws lv (pc + 1) (.int (qI x) :: st)) : qV p l e R s m args below meth c G A H0 nL Q cells slots ws lv pc (.long (qL x) :: st) :=
  fun H locs ls hP hD hS hl => lv_l2i C.1 C.2.1 hdg (qL_toI x) (k H locs ls hP hD hS hl)
theorem qv_i2c (C : qC p s m c cc own G A H0 nL) {x : Int} (hx : 0 ≤ x ∧ x ≤ 65535) (hdg : decode cc pc = .ok (.i2c, 1))
    (k : qV p l e R s m args below meth c G A H0 nL Q cells slots ws lv (pc + 1) (.int (qI x) :: st)) : qV p l e R s m args below meth c G A H0 nL Q cells slots ws lv pc (.int (qI x) :: st) :=
  fun H locs ls hP hD hS hl => lv_i2c C.1 C.2.1 hdg (qI_char hx) (k H locs ls hP hD hS hl)
theorem qv_iand (C : qC p s m c cc own G A H0 nL) {x y : Int32} {z : Int} (hz : x &&& y = qI z) (hdg : decode cc pc = .ok (.iand, 1))
    (k : qV p l e R s m args below meth c G A H0 nL Q cells slots ws lv (pc + 1) (.int (qI z) :: st)) : qV p l e R s m args below meth c G A H0 nL Q cells slots ws lv pc (.int y :: .int x :: st) :=
  fun H locs ls hP hD hS hl => lv_iand C.1 C.2.1 hdg (by rw [hz]; exact k H locs ls hP hD hS hl)
theorem qv_land (C : qC p s m c cc own G A H0 nL) {x y : Int64} {z : Int} (hz : x &&& y = qL z) (hdg : decode cc pc = .ok (.land, 1))
    (k : qV p l e R s m args below meth c G A H0 nL Q cells slots ws lv (pc + 1) (.long (qL z) :: st)) : qV p l e R s m args below meth c G A H0 nL Q cells slots ws lv pc (.long y :: .long x :: st) :=
  fun H locs ls hP hD hS hl => lv_land C.1 C.2.1 hdg (by rw [hz]; exact k H locs ls hP hD hS hl)
theorem qv_lor (C : qC p s m c cc own G A H0 nL) {x y : Int64} {z : Int} (hz : x ||| y = qL z) (hdg : decode cc pc = .ok (.lor, 1))
    (k : qV p l e R s m args below meth c G A H0 nL Q cells slots ws lv (pc + 1) (.long (qL z) :: st)) : qV p l e R s m args below meth c G A H0 nL Q cells slots ws lv pc (.long y :: .long x :: st) :=
  fun H locs ls hP hD hS hl => lv_lor C.1 C.2.1 hdg (by rw [hz]; exact k H locs ls hP hD hS hl)
theorem qv_lushr (C : qC p s m c cc own G A H0 nL) {x : Int64} {y : Int32} {z : Int} (hz : (x.toUInt64 >>> (y.toInt64.toUInt64 &&& Int64.toUInt64 63)).toInt64 = qL z) (hdg : decode cc pc = .ok (.lushr, 1))
    (k : qV p l e R s m args below meth c G A H0 nL Q cells slots ws lv (pc + 1) (.long (qL z) :: st)) : qV p l e R s m args below meth c G A H0 nL Q cells slots ws lv pc (.int y :: .long x :: st) :=
  fun H locs ls hP hD hS hl => lv_lushr C.1 C.2.1 hdg hz (k H locs ls hP hD hS hl)
theorem qv_lshl (C : qC p s m c cc own G A H0 nL) {x : Int64} {y : Int32} {z : Int} (hz : x <<< (y.toInt64 &&& 63) = qL z) (hdg : decode cc pc = .ok (.lshl, 1))
    (k : qV p l e R s m args below meth c G A H0 nL Q cells slots ws lv (pc + 1) (.long (qL z) :: st)) : qV p l e R s m args below meth c G A H0 nL Q cells slots ws lv pc (.int y :: .long x :: st) :=
  fun H locs ls hP hD hS hl => lv_lshl C.1 C.2.1 hdg hz (k H locs ls hP hD hS hl)
theorem qv_lshr (C : qC p s m c cc own G A H0 nL) {x : Int64} {y : Int32} {z : Int} (hz : x >>> (y.toInt64 &&& 63) = qL z) (hdg : decode cc pc = .ok (.lshr, 1))
    (k : qV p l e R s m args below meth c G A H0 nL Q cells slots ws lv (pc + 1) (.long (qL z) :: st)) : qV p l e R s m args below meth c G A H0 nL Q cells slots ws lv pc (.int y :: .long x :: st) :=
  fun H locs ls hP hD hS hl => lv_lshr C.1 C.2.1 hdg hz (k H locs ls hP hD hS hl)
theorem qv_dup (C : qC p s m c cc own G A H0 nL) {va : Value} (hdg : decode cc pc = .ok (.dup, 1)) (hva : va.category = 1)
    (k : qV p l e R s m args below meth c G A H0 nL Q cells slots ws lv (pc + 1) (va :: va :: st)) : qV p l e R s m args below meth c G A H0 nL Q cells slots ws lv pc (va :: st) :=
  fun H locs ls hP hD hS hl => lv_dup C.1 C.2.1 hdg hva (k H locs ls hP hD hS hl)
theorem qv_pop (C : qC p s m c cc own G A H0 nL) {va : Value} (hdg : decode cc pc = .ok (.pop, 1)) (hva : va.category = 1)
    (k : qV p l e R s m args below meth c G A H0 nL Q cells slots ws lv (pc + 1) st) : qV p l e R s m args below meth c G A H0 nL Q cells slots ws lv pc (va :: st) :=
  fun H locs ls hP hD hS hl => lv_pop C.1 C.2.1 hdg hva (k H locs ls hP hD hS hl)
theorem qv_dup_x1 (C : qC p s m c cc own G A H0 nL) {va vb : Value} (hdg : decode cc pc = .ok (.dup_x1, 1)) (hva : va.category = 1) (hvb : vb.category = 1)
    (k : qV p l e R s m args below meth c G A H0 nL Q cells slots ws lv (pc + 1) (va :: vb :: va :: st)) : qV p l e R s m args below meth c G A H0 nL Q cells slots ws lv pc (va :: vb :: st) :=
  fun H locs ls hP hD hS hl => lv_dup_x1 C.1 C.2.1 hdg hva hvb (k H locs ls hP hD hS hl)
theorem qv_dup2 (C : qC p s m c cc own G A H0 nL) {va vb : Value} (hdg : decode cc pc = .ok (.dup2, 1)) (hva : va.category = 1) (hvb : vb.category = 1)
    (k : qV p l e R s m args below meth c G A H0 nL Q cells slots ws lv (pc + 1) (va :: vb :: va :: vb :: st)) : qV p l e R s m args below meth c G A H0 nL Q cells slots ws lv pc (va :: vb :: st) :=
  fun H locs ls hP hD hS hl => lv_dup2_11 C.1 C.2.1 hdg hva hvb (k H locs ls hP hD hS hl)
theorem qv_icmp_eq (C : qC p s m c cc own G A H0 nL) {x y : Int} {off : Int} {tgt : Nat} (hdg : decode cc pc = .ok (.if_icmp .eq off, 3)) (ht : (pc : Int) + off = (tgt : Int)) (hx : -2147483648 ≤ x ∧ x ≤ 2147483647) (hy : -2147483648 ≤ y ∧ y ≤ 2147483647)
    (kt : x = y → qV p l e R s m args below meth c G A H0 nL Q cells slots ws lv tgt st) (kf : ¬ x = y → qV p l e R s m args below meth c G A H0 nL Q cells slots ws lv (pc + 3) st) : qV p l e R s m args below meth c G A H0 nL Q cells slots ws lv pc (.int (qI y) :: .int (qI x) :: st) :=
  fun H locs ls hP hD hS hl => lv_icmp_eq C.1 C.2.1 hdg ht (fun h => kt ((qI_eq hx hy).mp h) H locs ls hP hD hS hl) (fun h => kf (fun z => h ((qI_eq hx hy).mpr z)) H locs ls hP hD hS hl)
theorem qv_if_eq (C : qC p s m c cc own G A H0 nL) {x : Int} {off : Int} {tgt : Nat} (hdg : decode cc pc = .ok (.ifCond .eq off, 3)) (ht : (pc : Int) + off = (tgt : Int)) (hx : -2147483648 ≤ x ∧ x ≤ 2147483647)
    (kt : x = 0 → qV p l e R s m args below meth c G A H0 nL Q cells slots ws lv tgt st) (kf : ¬ x = 0 → qV p l e R s m args below meth c G A H0 nL Q cells slots ws lv (pc + 3) st) : qV p l e R s m args below meth c G A H0 nL Q cells slots ws lv pc (.int (qI x) :: st) :=
  fun H locs ls hP hD hS hl => lv_if_eq C.1 C.2.1 hdg ht (fun h => kt ((qI_eq hx qI_r0).mp h) H locs ls hP hD hS hl) (fun h => kf (fun z => h ((qI_eq hx qI_r0).mpr z)) H locs ls hP hD hS hl)
theorem qv_lcmp_eq (C : qC p s m c cc own G A H0 nL) {x y : Int} {off : Int} {tgt : Nat} (hd0 : decode cc pc = .ok (.lcmp, 1)) (hdg : decode cc (pc + 1) = .ok (.ifCond .eq off, 3)) (ht : ((pc + 1 : Nat) : Int) + off = (tgt : Int)) (hx : -9223372036854775808 ≤ x ∧ x ≤ 9223372036854775807) (hy : -9223372036854775808 ≤ y ∧ y ≤ 9223372036854775807)
    (kt : x = y → qV p l e R s m args below meth c G A H0 nL Q cells slots ws lv tgt st) (kf : ¬ x = y → qV p l e R s m args below meth c G A H0 nL Q cells slots ws lv (pc + 4) st) : qV p l e R s m args below meth c G A H0 nL Q cells slots ws lv pc (.long (qL y) :: .long (qL x) :: st) :=
  fun H locs ls hP hD hS hl => W.lcmp C.1 C.2.1 hd0 (lv_if_eq C.1 C.2.1 hdg ht (fun h => kt (((lg_cmp_eq _ _).trans (qL_eq hx hy)).mp h) H locs ls hP hD hS hl) (fun h => kf (fun z => h (((lg_cmp_eq _ _).trans (qL_eq hx hy)).mpr z)) H locs ls hP hD hS hl))
theorem qv_icmp_ne (C : qC p s m c cc own G A H0 nL) {x y : Int} {off : Int} {tgt : Nat} (hdg : decode cc pc = .ok (.if_icmp .ne off, 3)) (ht : (pc : Int) + off = (tgt : Int)) (hx : -2147483648 ≤ x ∧ x ≤ 2147483647) (hy : -2147483648 ≤ y ∧ y ≤ 2147483647)
    (kt : ¬ x = y → qV p l e R s m args below meth c G A H0 nL Q cells slots ws lv tgt st) (kf : x = y → qV p l e R s m args below meth c G A H0 nL Q cells slots ws lv (pc + 3) st) : qV p l e R s m args below meth c G A H0 nL Q cells slots ws lv pc (.int (qI y) :: .int (qI x) :: st) :=
  fun H locs ls hP hD hS hl => lv_icmp_ne C.1 C.2.1 hdg ht (fun h => kt (fun z => h ((qI_eq hx hy).mpr z)) H locs ls hP hD hS hl) (fun h => kf ((qI_eq hx hy).mp h) H locs ls hP hD hS hl)
theorem qv_if_ne (C : qC p s m c cc own G A H0 nL) {x : Int} {off : Int} {tgt : Nat} (hdg : decode cc pc = .ok (.ifCond .ne off, 3)) (ht : (pc : Int) + off = (tgt : Int)) (hx : -2147483648 ≤ x ∧ x ≤ 2147483647)
    (kt : ¬ x = 0 → qV p l e R s m args below meth c G A H0 nL Q cells slots ws lv tgt st) (kf : x = 0 → qV p l e R s m args below meth c G A H0 nL Q cells slots ws lv (pc + 3) st) : qV p l e R s m args below meth c G A H0 nL Q cells slots ws lv pc (.int (qI x) :: st) :=
  fun H locs ls hP hD hS hl => lv_if_ne C.1 C.2.1 hdg ht (fun h => kt (fun z => h ((qI_eq hx qI_r0).mpr z)) H locs ls hP hD hS hl) (fun h => kf ((qI_eq hx qI_r0).mp h) H locs ls hP hD hS hl)
theorem qv_lcmp_ne (C : qC p s m c cc own G A H0 nL) {x y : Int} {off : Int} {tgt : Nat} (hd0 : decode cc pc = .ok (.lcmp, 1)) (hdg : decode cc (pc + 1) = .ok (.ifCond .ne off, 3)) (ht : ((pc + 1 : Nat) : Int) + off = (tgt : Int)) (hx : -9223372036854775808 ≤ x ∧ x ≤ 9223372036854775807) (hy : -9223372036854775808 ≤ y ∧ y ≤ 9223372036854775807)
    (kt : ¬ x = y → qV p l e R s m args below meth c G A H0 nL Q cells slots ws lv tgt st) (kf : x = y → qV p l e R s m args below meth c G A H0 nL Q cells slots ws lv (pc + 4) st) : qV p l e R s m args below meth c G A H0 nL Q cells slots ws lv pc (.long (qL y) :: .long (qL x) :: st) :=
  fun H locs ls hP hD hS hl => W.lcmp C.1 C.2.1 hd0 (lv_if_ne C.1 C.2.1 hdg ht (fun h => kt (fun z => h (((lg_cmp_eq _ _).trans (qL_eq hx hy)).mpr z)) H locs ls hP hD hS hl) (fun h => kf (((lg_cmp_eq _ _).trans (qL_eq hx hy)).mp h) H locs ls hP hD hS hl))
theorem qv_icmp_lt (C : qC p s m c cc own G A H0 nL) {x y : Int} {off : Int} {tgt : Nat} (hdg : decode cc pc = .ok (.if_icmp .lt off, 3)) (ht : (pc : Int) + off = (tgt : Int)) (hx : -2147483648 ≤ x ∧ x ≤ 2147483647) (hy : -2147483648 ≤ y ∧ y ≤ 2147483647)
    (kt : x < y → qV p l e R s m args below meth c G A H0 nL Q cells slots ws lv tgt st) (kf : y ≤ x → qV p l e R s m args below meth c G A H0 nL Q cells slots ws lv (pc + 3) st) : qV p l e R s m args below meth c G A H0 nL Q cells slots ws lv pc (.int (qI y) :: .int (qI x) :: st) :=
  fun H locs ls hP hD hS hl => lv_icmp_lt C.1 C.2.1 hdg ht (fun h => kt ((qI_lt hx hy).mp h) H locs ls hP hD hS hl) (fun h => kf (Int.not_lt.mp (fun z => h ((qI_lt hx hy).mpr z))) H locs ls hP hD hS hl)
theorem qv_if_lt (C : qC p s m c cc own G A H0 nL) {x : Int} {off : Int} {tgt : Nat} (hdg : decode cc pc = .ok (.ifCond .lt off, 3)) (ht : (pc : Int) + off = (tgt : Int)) (hx : -2147483648 ≤ x ∧ x ≤ 2147483647)
    (kt : x < 0 → qV p l e R s m args below meth c G A H0 nL Q cells slots ws lv tgt st) (kf : 0 ≤ x → qV p l e R s m args below meth c G A H0 nL Q cells slots ws lv (pc + 3) st) : qV p l e R s m args below meth c G A H0 nL Q cells slots ws lv pc (.int (qI x) :: st) :=
  fun H locs ls hP hD hS hl => lv_if_lt C.1 C.2.1 hdg ht (fun h => kt ((qI_lt hx qI_r0).mp h) H locs ls hP hD hS hl) (fun h => kf (Int.not_lt.mp (fun z => h ((qI_lt hx qI_r0).mpr z))) H locs ls hP hD hS hl)
theorem qv_lcmp_lt (C : qC p s m c cc own G A H0 nL) {x y : Int} {off : Int} {tgt : Nat} (hd0 : decode cc pc = .ok (.lcmp, 1)) (hdg : decode cc (pc + 1) = .ok (.ifCond .lt off, 3)) (ht : ((pc + 1 : Nat) : Int) + off = (tgt : Int)) (hx : -9223372036854775808 ≤ x ∧ x ≤ 9223372036854775807) (hy : -9223372036854775808 ≤ y ∧ y ≤ 9223372036854775807)
    (kt : x < y → qV p l e R s m args below meth c G A H0 nL Q cells slots ws lv tgt st) (kf : y ≤ x → qV p l e R s m args below meth c G A H0 nL Q cells slots ws lv (pc + 4) st) : qV p l e R s m args below meth c G A H0 nL Q cells slots ws lv pc (.long (qL y) :: .long (qL x) :: st) :=
  fun H locs ls hP hD hS hl => W.lcmp C.1 C.2.1 hd0 (lv_if_lt C.1 C.2.1 hdg ht (fun h => kt (((lg_cmp_lt _ _).trans (qL_lt hx hy)).mp h) H locs ls hP hD hS hl) (fun h => kf (Int.not_lt.mp (fun z => h (((lg_cmp_lt _ _).trans (qL_lt hx hy)).mpr z))) H locs ls hP hD hS hl))
theorem qv_icmp_ge (C : qC p s m c cc own G A H0 nL) {x y : Int} {off : Int} {tgt : Nat} (hdg : decode cc pc = .ok (.if_icmp .ge off, 3)) (ht : (pc : Int) + off = (tgt : Int)) (hx : -2147483648 ≤ x ∧ x ≤ 2147483647) (hy : -2147483648 ≤ y ∧ y ≤ 2147483647)
    (kt : y ≤ x → qV p l e R s m args below meth c G A H0 nL Q cells slots ws lv tgt st) (kf : x < y → qV p l e R s m args below meth c G A H0 nL Q cells slots ws lv (pc + 3) st) : qV p l e R s m args below meth c G A H0 nL Q cells slots ws lv pc (.int (qI y) :: .int (qI x) :: st) :=
  fun H locs ls hP hD hS hl => lv_icmp_ge C.1 C.2.1 hdg ht (fun h => kt ((qI_le hy hx).mp h) H locs ls hP hD hS hl) (fun h => kf (Int.not_le.mp (fun z => h ((qI_le hy hx).mpr z))) H locs ls hP hD hS hl)
theorem qv_if_ge (C : qC p s m c cc own G A H0 nL) {x : Int} {off : Int} {tgt : Nat} (hdg : decode cc pc = .ok (.ifCond .ge off, 3)) (ht : (pc : Int) + off = (tgt : Int)) (hx : -2147483648 ≤ x ∧ x ≤ 2147483647)
    (kt : 0 ≤ x → qV p l e R s m args below meth c G A H0 nL Q cells slots ws lv tgt st) (kf : x < 0 → qV p l e R s m args below meth c G A H0 nL Q cells slots ws lv (pc + 3) st) : qV p l e R s m args below meth c G A H0 nL Q cells slots ws lv pc (.int (qI x) :: st) :=
  fun H locs ls hP hD hS hl => lv_if_ge C.1 C.2.1 hdg ht (fun h => kt ((qI_le qI_r0 hx).mp h) H locs ls hP hD hS hl) (fun h => kf (Int.not_le.mp (fun z => h ((qI_le qI_r0 hx).mpr z))) H locs ls hP hD hS hl)
theorem qv_lcmp_ge (C : qC p s m c cc own G A H0 nL) {x y : Int} {off : Int} {tgt : Nat} (hd0 : decode cc pc = .ok (.lcmp, 1)) (hdg : decode cc (pc + 1) = .ok (.ifCond .ge off, 3)) (ht : ((pc + 1 : Nat) : Int) + off = (tgt : Int)) (hx : -9223372036854775808 ≤ x ∧ x ≤ 9223372036854775807) (hy : -9223372036854775808 ≤ y ∧ y ≤ 9223372036854775807)
    (kt : y ≤ x → qV p l e R s m args below meth c G A H0 nL Q cells slots ws lv tgt st) (kf : x < y → qV p l e R s m args below meth c G A H0 nL Q cells slots ws lv (pc + 4) st) : qV p l e R s m args below meth c G A H0 nL Q cells slots ws lv pc (.long (qL y) :: .long (qL x) :: st) :=
  fun H locs ls hP hD hS hl => W.lcmp C.1 C.2.1 hd0 (lv_if_ge C.1 C.2.1 hdg ht (fun h => kt (((lg_cmp_ge _ _).trans (qL_le hy hx)).mp h) H locs ls hP hD hS hl) (fun h => kf (Int.not_le.mp (fun z => h (((lg_cmp_ge _ _).trans (qL_le hy hx)).mpr z))) H locs ls hP hD hS hl))
theorem qv_icmp_gt (C : qC p s m c cc own G A H0 nL) {x y : Int} {off : Int} {tgt : Nat} (hdg : decode cc pc = .ok (.if_icmp .gt off, 3)) (ht : (pc : Int) + off = (tgt : Int)) (hx : -2147483648 ≤ x ∧ x ≤ 2147483647) (hy : -2147483648 ≤ y ∧ y ≤ 2147483647)
    (kt : y < x → qV p l e R s m args below meth c G A H0 nL Q cells slots ws lv tgt st) (kf : x ≤ y → qV p l e R s m args below meth c G A H0 nL Q cells slots ws lv (pc + 3) st) : qV p l e R s m args below meth c G A H0 nL Q cells slots ws lv pc (.int (qI y) :: .int (qI x) :: st) :=
  fun H locs ls hP hD hS hl => lv_icmp_gt C.1 C.2.1 hdg ht (fun h => kt ((qI_lt hy hx).mp h) H locs ls hP hD hS hl) (fun h => kf (Int.not_lt.mp (fun z => h ((qI_lt hy hx).mpr z))) H locs ls hP hD hS hl)
theorem qv_if_gt (C : qC p s m c cc own G A H0 nL) {x : Int} {off : Int} {tgt : Nat} (hdg : decode cc pc = .ok (.ifCond .gt off, 3)) (ht : (pc : Int) + off = (tgt : Int)) (hx : -2147483648 ≤ x ∧ x ≤ 2147483647)
    (kt : 0 < x → qV p l e R s m args below meth c G A H0 nL Q cells slots ws lv tgt st) (kf : x ≤ 0 → qV p l e R s m args below meth c G A H0 nL Q cells slots ws lv (pc + 3) st) : qV p l e R s m args below meth c G A H0 nL Q cells slots ws lv pc (.int (qI x) :: st) :=
  fun H locs ls hP hD hS hl => lv_if_gt C.1 C.2.1 hdg ht (fun h => kt ((qI_lt qI_r0 hx).mp h) H locs ls hP hD hS hl) (fun h => kf (Int.not_lt.mp (fun z => h ((qI_lt qI_r0 hx).mpr z))) H locs ls hP hD hS hl)
theorem qv_lcmp_gt (C : qC p s m c cc own G A H0 nL) {x y : Int} {off : Int} {tgt : Nat} (hd0 : decode cc pc = .ok (.lcmp, 1)) (hdg : decode cc (pc + 1) = .ok (.ifCond .gt off, 3)) (ht : ((pc + 1 : Nat) : Int) + off = (tgt : Int)) (hx : -9223372036854775808 ≤ x ∧ x ≤ 9223372036854775807) (hy : -9223372036854775808 ≤ y ∧ y ≤ 9223372036854775807)
    (kt : y < x → qV p l e R s m args below meth c G A H0 nL Q cells slots ws lv tgt st) (kf : x ≤ y → qV p l e R s m args below meth c G A H0 nL Q cells slots ws lv (pc + 4) st) : qV p l e R s m args below meth c G A H0 nL Q cells slots ws lv pc (.long (qL y) :: .long (qL x) :: st) :=
  fun H locs ls hP hD hS hl => W.lcmp C.1 C.2.1 hd0 (lv_if_gt C.1 C.2.1 hdg ht (fun h => kt (((lg_cmp_gt _ _).trans (qL_lt hy hx)).mp h) H locs ls hP hD hS hl) (fun h => kf (Int.not_lt.mp (fun z => h (((lg_cmp_gt _ _).trans (qL_lt hy hx)).mpr z))) H locs ls hP hD hS hl))
theorem qv_icmp_le (C : qC p s m c cc own G A H0 nL) {x y : Int} {off : Int} {tgt : Nat} (hdg : decode cc pc = .ok (.if_icmp .le off, 3)) (ht : (pc : Int) + off = (tgt : Int)) (hx : -2147483648 ≤ x ∧ x ≤ 2147483647) (hy : -2147483648 ≤ y ∧ y ≤ 2147483647)
    (kt : x ≤ y → qV p l e R s m args below meth c G A H0 nL Q cells slots ws lv tgt st) (kf : y < x → qV p l e R s m args below meth c G A H0 nL Q cells slots ws lv (pc + 3) st) : qV p l e R s m args below meth c G A H0 nL Q cells slots ws lv pc (.int (qI y) :: .int (qI x) :: st) :=
  fun H locs ls hP hD hS hl => lv_icmp_le C.1 C.2.1 hdg ht (fun h => kt ((qI_le hx hy).mp h) H locs ls hP hD hS hl) (fun h => kf (Int.not_le.mp (fun z => h ((qI_le hx hy).mpr z))) H locs ls hP hD hS hl)
theorem qv_if_le (C : qC p s m c cc own G A H0 nL) {x : Int} {off : Int} {tgt : Nat} (hdg : decode cc pc = .ok (.ifCond .le off, 3)) (ht : (pc : Int) + off = (tgt : Int)) (hx : -2147483648 ≤ x ∧ x ≤ 2147483647)
    (kt : x ≤ 0 → qV p l e R s m args below meth c G A H0 nL Q cells slots ws lv tgt st) (kf : 0 < x → qV p l e R s m args below meth c G A H0 nL Q cells slots ws lv (pc + 3) st) : qV p l e R s m args below meth c G A H0 nL Q cells slots ws lv pc (.int (qI x) :: st) :=
  fun H locs ls hP hD hS hl => lv_if_le C.1 C.2.1 hdg ht (fun h => kt ((qI_le hx qI_r0).mp h) H locs ls hP hD hS hl) (fun h => kf (Int.not_le.mp (fun z => h ((qI_le hx qI_r0).mpr z))) H locs ls hP hD hS hl)
theorem qv_lcmp_le (C : qC p s m c cc own G A H0 nL) {x y : Int} {off : Int} {tgt : Nat} (hd0 : decode cc pc = .ok (.lcmp, 1)) (hdg : decode cc (pc + 1) = .ok (.ifCond .le off, 3)) (ht : ((pc + 1 : Nat) : Int) + off = (tgt : Int)) (hx : -9223372036854775808 ≤ x ∧ x ≤ 9223372036854775807) (hy : -9223372036854775808 ≤ y ∧ y ≤ 9223372036854775807)
    (kt : x ≤ y → qV p l e R s m args below meth c G A H0 nL Q cells slots ws lv tgt st) (kf : y < x → qV p l e R s m args below meth c G A H0 nL Q cells slots ws lv (pc + 4) st) : qV p l e R s m args below meth c G A H0 nL Q cells slots ws lv pc (.long (qL y) :: .long (qL x) :: st) :=
  fun H locs ls hP hD hS hl => W.lcmp C.1 C.2.1 hd0 (lv_if_le C.1 C.2.1 hdg ht (fun h => kt (((lg_cmp_le _ _).trans (qL_le hx hy)).mp h) H locs ls hP hD hS hl) (fun h => kf (Int.not_le.mp (fun z => h (((lg_cmp_le _ _).trans (qL_le hx hy)).mpr z))) H locs ls hP hD hS hl))
theorem qv_goto (C : qC p s m c cc own G A H0 nL) {off : Int} {tgt : Nat} (hdg : decode cc pc = .ok (.goto off, 3)) (ht : (pc : Int) + off = (tgt : Int))
    (k : qV p l e R s m args below meth c G A H0 nL Q cells slots ws lv tgt st) : qV p l e R s m args below meth c G A H0 nL Q cells slots ws lv pc st :=
  fun H locs ls hP hD hS hl => lv_goto C.1 C.2.1 hdg ht (k H locs ls hP hD hS hl)
theorem qv_tabOut (C : qC p s m c cc own G A H0 nL) {dflt lo hi : Int} {offs : Array Int} {len : Nat} {x : Int} {tgt : Nat} (hdg : decode cc pc = .ok (.tableswitch dflt lo hi offs, len)) (hx : -2147483648 ≤ x ∧ x ≤ 2147483647) (h : x < lo ∨ hi < x) (ht : (pc : Int) + dflt = (tgt : Int))
    (k : qV p l e R s m args below meth c G A H0 nL Q cells slots ws lv tgt st) : qV p l e R s m args below meth c G A H0 nL Q cells slots ws lv pc (.int (qI x) :: st) :=
  fun H locs ls hP hD hS hl => lv_tableOut C.1 C.2.1 hdg (by rw [qI_int hx]; exact h) ht (k H locs ls hP hD hS hl)
theorem qv_tabIn (C : qC p s m c cc own G A H0 nL) {dflt lo hi : Int} {offs : Array Int} {len : Nat} {x off : Int} {tgt : Nat} (hdg : decode cc pc = .ok (.tableswitch dflt lo hi offs, len)) (hx : -2147483648 ≤ x ∧ x ≤ 2147483647) (h1 : lo ≤ x) (h2 : x ≤ hi) (ho : offs[(x - lo).toNat]? = some off) (ht : (pc : Int) + off = (tgt : Int))
    (k : qV p l e R s m args below meth c G A H0 nL Q cells slots ws lv tgt st) : qV p l e R s m args below meth c G A H0 nL Q cells slots ws lv pc (.int (qI x) :: st) :=
  fun H locs ls hP hD hS hl => lv_tableIn C.1 C.2.1 hdg (by rw [qI_int hx]; omega) (by rw [qI_int hx]; omega) (by rw [qI_int hx]; exact ho) ht (k H locs ls hP hD hS hl)
theorem qv_lookup (C : qC p s m c cc own G A H0 nL) {dflt : Int} {ps : Array (Int × Int)} {len : Nat} {x off : Int} {tgt : Nat} (hdg : decode cc pc = .ok (.lookupswitch dflt ps, len)) (hx : -2147483648 ≤ x ∧ x ≤ 2147483647) (hp : (ps.toList.zip (ps.toList.drop 1)).all (fun (a, next) => a.1 < next.1) = true) (ho : Op.lookupswitch.offset ps.toList dflt x = off) (ht : (pc : Int) + off = (tgt : Int))
    (k : qV p l e R s m args below meth c G A H0 nL Q cells slots ws lv tgt st) : qV p l e R s m args below meth c G A H0 nL Q cells slots ws lv pc (.int (qI x) :: st) :=
  fun H locs ls hP hD hS hl => lv_lookup C.1 C.2.1 hdg hp (by rw [qI_int hx]; exact ho) ht (k H locs ls hP hD hS hl)
theorem qv_get (C : qC p s m c cc own G A H0 nL) {ref Cn : String} {T : u_T} {N ci index a : Nat} (hin : ∀ w ∈ u_ws Cn T N, w ∈ qTbl) (q0 : Nat) {fs : List Value} (he : ws[q0]? = some (a, .inr (ci, fs))) (hc : vwCl[ci]? = some (Cn, T, N)) (j : Nat) (hj : j < N) (hlink : Cond.fieldLink own index ref (T j).2.1 (T j).2.2.1 ∈ qTbl) (hs : (T j).1 = ref) {v : Value} (hv : fs[j]? = some v) (hdg : decode cc pc = .ok (.getfield index, 3))
    (k : qV p l e R s m args below meth c G A H0 nL Q cells slots ws lv (pc + 3) (v :: st)) : qV p l e R s m args below meth c G A H0 nL Q cells slots ws lv pc (.ref a :: st) :=
  fun H locs ls hP hD hS hl => va_get (D := G.1) C.1 C.2.1 (fun w h => C.2.2.2.2.1.word (hin w h)) (fun w h => h) C.2.2.2.1 C.2.2.2.2.1.1 hP q0 he hc j hj (C.2.2.2.2.1.word hlink) (fun x9 h9 => by rw [← hs]; exact h9) hv hdg (k H locs ls hP hD hS hl)
theorem qv_put (C : qC p s m c cc own G A H0 nL) {ref Cn : String} {T : u_T} {N ci index a : Nat} (hin : ∀ w ∈ u_ws Cn T N, w ∈ qTbl) (q0 : Nat) {fs : List Value} (he : ws[q0]? = some (a, .inr (ci, fs))) (hc : vwCl[ci]? = some (Cn, T, N)) (j : Nat) (hj : j < N) (ty0 : Nat → FieldType) (hty : ∀ k, k < N → parseFieldDescriptor (T k).2.2.1 = some (ty0 k)) (hnm : ∀ a, a < N → ∀ b, b < N → a ≠ b → (T a).2.1 ≠ (T b).2.1) (hlink : Cond.fieldLink own index ref (T j).2.1 (T j).2.2.1 ∈ qTbl) (hs : (T j).1 = ref) (hfin : (T j).2.2.2 = false) {ty : FieldType} {v : Value} (hd : parseFieldDescriptor (T j).2.2.1 = some ty) (hn : narrow ty v = v) (hfit : fits ty v = true) (hl9 : j < fs.length) (hdg : decode cc pc = .ok (.putfield index, 3)) {ws' : va_W} (hws : ws.set q0 (a, .inr (ci, fs.set j v)) = ws')
    (k : qV p l e R s m args below meth c G A H0 nL Q cells slots (ws') lv (pc + 3) st) : qV p l e R s m args below meth c G A H0 nL Q cells slots ws lv pc (v :: .ref a :: st) :=
  fun H locs ls hP hD hS hl => va_put (D := G.1) C.1 C.2.1 (fun w h => C.2.2.2.2.1.word (hin w h)) (fun w h => h) ty0 hty hnm C.2.2.2.1 C.2.2.2.2.1.1 hP hD hS q0 he hc j hj (C.2.2.2.2.1.word hlink) (fun x9 h9 => by rw [← hs]; exact h9) hfin hd hn hfit hl9 hdg (fun H1 locs1 hP1 hD1 hS1 => k H1 locs1 ls (hws ▸ hP1) (hws ▸ hD1) hS1 hl)
theorem qv_getN (C : qC p s m c cc own G A H0 nL) {host : String} {ref Cn : String} {T : u_T} {N ci index a : Nat} (hin : ∀ w ∈ u_ws Cn T N, w ∈ qTbl) (q0 : Nat) {fs : List Value} (he : ws[q0]? = some (a, .inr (ci, fs))) (hc : vwCl[ci]? = some (Cn, T, N)) (j : Nat) (hj : j < N) (hlink : Cond.fieldLinkNest own index ref (T j).2.1 (T j).2.2.1 host ∈ qTbl) (hs : (T j).1 = ref) {v : Value} (hv : fs[j]? = some v) (hdg : decode cc pc = .ok (.getfield index, 3))
    (k : qV p l e R s m args below meth c G A H0 nL Q cells slots ws lv (pc + 3) (v :: st)) : qV p l e R s m args below meth c G A H0 nL Q cells slots ws lv pc (.ref a :: st) :=
  fun H locs ls hP hD hS hl => va_getN (D := G.1) C.1 C.2.1 (fun w h => C.2.2.2.2.1.word (hin w h)) (fun w h => h) C.2.2.2.1 C.2.2.2.2.1.1 hP q0 he hc j hj (C.2.2.2.2.1.word hlink) (fun x9 h9 => by rw [← hs]; exact h9) hv hdg (k H locs ls hP hD hS hl)
theorem qv_putN (C : qC p s m c cc own G A H0 nL) {host : String} {ref Cn : String} {T : u_T} {N ci index a : Nat} (hin : ∀ w ∈ u_ws Cn T N, w ∈ qTbl) (q0 : Nat) {fs : List Value} (he : ws[q0]? = some (a, .inr (ci, fs))) (hc : vwCl[ci]? = some (Cn, T, N)) (j : Nat) (hj : j < N) (ty0 : Nat → FieldType) (hty : ∀ k, k < N → parseFieldDescriptor (T k).2.2.1 = some (ty0 k)) (hnm : ∀ a, a < N → ∀ b, b < N → a ≠ b → (T a).2.1 ≠ (T b).2.1) (hlink : Cond.fieldLinkNest own index ref (T j).2.1 (T j).2.2.1 host ∈ qTbl) (hs : (T j).1 = ref) (hfin : (T j).2.2.2 = false) {ty : FieldType} {v : Value} (hd : parseFieldDescriptor (T j).2.2.1 = some ty) (hn : narrow ty v = v) (hfit : fits ty v = true) (hl9 : j < fs.length) (hdg : decode cc pc = .ok (.putfield index, 3)) {ws' : va_W} (hws : ws.set q0 (a, .inr (ci, fs.set j v)) = ws')
    (k : qV p l e R s m args below meth c G A H0 nL Q cells slots (ws') lv (pc + 3) st) : qV p l e R s m args below meth c G A H0 nL Q cells slots ws lv pc (v :: .ref a :: st) :=
  fun H locs ls hP hD hS hl => va_putN (D := G.1) C.1 C.2.1 (fun w h => C.2.2.2.2.1.word (hin w h)) (fun w h => h) ty0 hty hnm C.2.2.2.1 C.2.2.2.2.1.1 hP hD hS q0 he hc j hj (C.2.2.2.2.1.word hlink) (fun x9 h9 => by rw [← hs]; exact h9) hfin hd hn hfit hl9 hdg (fun H1 locs1 hP1 hD1 hS1 => k H1 locs1 ls (hws ▸ hP1) (hws ▸ hD1) hS1 hl)
theorem qv_putF (C : qC p s m c cc own G A H0 nL) {ref Cn : String} {T : u_T} {N ci index a : Nat} (hin : ∀ w ∈ u_ws Cn T N, w ∈ qTbl) (q0 : Nat) {fs : List Value} (he : ws[q0]? = some (a, .inr (ci, fs))) (hc : vwCl[ci]? = some (Cn, T, N)) (j : Nat) (hj : j < N) (ty0 : Nat → FieldType) (hty : ∀ k, k < N → parseFieldDescriptor (T k).2.2.1 = some (ty0 k)) (hnm : ∀ a, a < N → ∀ b, b < N → a ≠ b → (T a).2.1 ≠ (T b).2.1) (hlink : Cond.fieldLink own index ref (T j).2.1 (T j).2.2.1 ∈ qTbl) (hs : (T j).1 = ref) (hfin : (T j).2.2.2 = true) (hin2 : meth.name = "<init>") (hdecl : (T j).1 = own) {ty : FieldType} {v : Value} (hd : parseFieldDescriptor (T j).2.2.1 = some ty) (hn : narrow ty v = v) (hfit : fits ty v = true) (hl9 : j < fs.length) (hdg : decode cc pc = .ok (.putfield index, 3)) {ws' : va_W} (hws : ws.set q0 (a, .inr (ci, fs.set j v)) = ws')
    (k : qV p l e R s m args below meth c G A H0 nL Q cells slots (ws') lv (pc + 3) st) : qV p l e R s m args below meth c G A H0 nL Q cells slots ws lv pc (v :: .ref a :: st) :=
  fun H locs ls hP hD hS hl => va_putF (D := G.1) C.1 C.2.1 (fun w h => C.2.2.2.2.1.word (hin w h)) (fun w h => h) ty0 hty hnm C.2.2.2.1 C.2.2.2.2.1.1 hP hD hS q0 he hc j hj (C.2.2.2.2.1.word hlink) (fun x9 h9 => by rw [← hs]; exact h9) hfin hin2 hdecl hd hn hfit hl9 hdg (fun H1 locs1 hP1 hD1 hS1 => k H1 locs1 ls (hws ▸ hP1) (hws ▸ hD1) hS1 hl)
theorem qv_iald (C : qC p s m c cc own G A H0 nL) (q0 : Nat) {a n : Nat} {f : Int → Int} {i : Int} (ha : ws[q0]? = some (a, .inl (G.2.1, n, .inl (qA f)))) (hi : 0 ≤ i ∧ i < n ∧ i ≤ 2147483647) (hdg : decode cc pc = .ok (.iaload, 1))
    (k : qV p l e R s m args below meth c G A H0 nL Q cells slots ws lv (pc + 1) (.int (qI (f i)) :: st)) : qV p l e R s m args below meth c G A H0 nL Q cells slots ws lv pc (.int (qI i) :: .ref a :: st) :=
  fun H locs ls hP hD hS hl => va_iald (D := G.1) C.1 C.2.1 C.2.2.2.2.1.1 hP q0 0 ha rfl (qI_in hi) hdg (by rw [qA_at hi]; exact k H locs ls hP hD hS hl)
theorem qv_iast (C : qC p s m c cc own G A H0 nL) (q0 : Nat) {a n : Nat} {f : Int → Int} {i x : Int} (ha : ws[q0]? = some (a, .inl (G.2.1, n, .inl (qA f)))) (hi : 0 ≤ i ∧ i < n ∧ i ≤ 2147483647) (hdg : decode cc pc = .ok (.iastore, 1)) {ws' : va_W} (hws : ws.set q0 (a, .inl (G.2.1, n, .inl (qA (qU f i x)))) = ws')
    (k : qV p l e R s m args below meth c G A H0 nL Q cells slots (ws') lv (pc + 1) st) : qV p l e R s m args below meth c G A H0 nL Q cells slots ws lv pc (.int (qI x) :: .int (qI i) :: .ref a :: st) :=
  fun H locs ls hP hD hS hl => va_iast (D := G.1) C.1 C.2.1 C.2.2.2.2.1.1 hP hD hS q0 0 ha rfl (qI_in hi) hdg (fun H1 locs1 hP1 hD1 hS1 => k H1 locs1 ls (by rw [qA_up hi, hws] at hP1; exact hP1) (by rw [qA_up hi, hws] at hD1; exact hD1) hS1 hl)
theorem qv_cald (C : qC p s m c cc own G A H0 nL) (q0 : Nat) {a n : Nat} {f : Int → Int} {i : Int} (ha : ws[q0]? = some (a, .inl (G.2.2.1, n, .inl (qA f)))) (hi : 0 ≤ i ∧ i < n ∧ i ≤ 2147483647) (hdg : decode cc pc = .ok (.caload, 1))
    (k : qV p l e R s m args below meth c G A H0 nL Q cells slots ws lv (pc + 1) (.int (qI (f i)) :: st)) : qV p l e R s m args below meth c G A H0 nL Q cells slots ws lv pc (.int (qI i) :: .ref a :: st) :=
  fun H locs ls hP hD hS hl => va_cald (D := G.1) C.1 C.2.1 C.2.2.2.2.1.1 hP q0 1 ha rfl (qI_in hi) hdg (by rw [qA_at hi]; exact k H locs ls hP hD hS hl)
theorem qv_cast (C : qC p s m c cc own G A H0 nL) (q0 : Nat) {a n : Nat} {f : Int → Int} {i x : Int} (ha : ws[q0]? = some (a, .inl (G.2.2.1, n, .inl (qA f)))) (hi : 0 ≤ i ∧ i < n ∧ i ≤ 2147483647) (hx : 0 ≤ x ∧ x ≤ 65535) (hdg : decode cc pc = .ok (.castore, 1)) {ws' : va_W} (hws : ws.set q0 (a, .inl (G.2.2.1, n, .inl (qA (qU f i x)))) = ws')
    (k : qV p l e R s m args below meth c G A H0 nL Q cells slots (ws') lv (pc + 1) st) : qV p l e R s m args below meth c G A H0 nL Q cells slots ws lv pc (.int (qI x) :: .int (qI i) :: .ref a :: st) :=
  fun H locs ls hP hD hS hl => va_cast (D := G.1) C.1 C.2.1 C.2.2.2.2.1.1 hP hD hS q0 1 ha rfl (qI_in hi) hdg (fun H1 locs1 hP1 hD1 hS1 => k H1 locs1 ls (by rw [qI_nc hx, qA_up hi, hws] at hP1; exact hP1) (by rw [qI_nc hx, qA_up hi, hws] at hD1; exact hD1) hS1 hl)
theorem qv_zald (C : qC p s m c cc own G A H0 nL) (q0 : Nat) {a n : Nat} {f : Int → Int} {i : Int} (ha : ws[q0]? = some (a, .inl (G.2.2.2.1, n, .inl (qA f)))) (hi : 0 ≤ i ∧ i < n ∧ i ≤ 2147483647) (hdg : decode cc pc = .ok (.baload, 1))
    (k : qV p l e R s m args below meth c G A H0 nL Q cells slots ws lv (pc + 1) (.int (qI (f i)) :: st)) : qV p l e R s m args below meth c G A H0 nL Q cells slots ws lv pc (.int (qI i) :: .ref a :: st) :=
  fun H locs ls hP hD hS hl => va_zald (D := G.1) C.1 C.2.1 C.2.2.2.2.1.1 hP q0 2 ha rfl (qI_in hi) hdg (by rw [qA_at hi]; exact k H locs ls hP hD hS hl)
theorem qv_zast (C : qC p s m c cc own G A H0 nL) (q0 : Nat) {a n : Nat} {f : Int → Int} {i x : Int} (ha : ws[q0]? = some (a, .inl (G.2.2.2.1, n, .inl (qA f)))) (hi : 0 ≤ i ∧ i < n ∧ i ≤ 2147483647) (hx : 0 ≤ x ∧ x ≤ 1) (hdg : decode cc pc = .ok (.bastore, 1)) {ws' : va_W} (hws : ws.set q0 (a, .inl (G.2.2.2.1, n, .inl (qA (qU f i x)))) = ws')
    (k : qV p l e R s m args below meth c G A H0 nL Q cells slots (ws') lv (pc + 1) st) : qV p l e R s m args below meth c G A H0 nL Q cells slots ws lv pc (.int (qI x) :: .int (qI i) :: .ref a :: st) :=
  fun H locs ls hP hD hS hl => va_zast (D := G.1) C.1 C.2.1 C.2.2.2.2.1.1 hP hD hS q0 2 ha rfl (qI_in hi) hdg (fun H1 locs1 hP1 hD1 hS1 => k H1 locs1 ls (by rw [qI_nz hx, qA_up hi, hws] at hP1; exact hP1) (by rw [qI_nz hx, qA_up hi, hws] at hD1; exact hD1) hS1 hl)
theorem qv_lald (C : qC p s m c cc own G A H0 nL) (q0 : Nat) {a n : Nat} {f : Int → Int} {i : Int} (ha : ws[q0]? = some (a, .inl (G.2.2.2.2, n, .inr (.inl (qAl f))))) (hi : 0 ≤ i ∧ i < n ∧ i ≤ 2147483647) (hdg : decode cc pc = .ok (.laload, 1))
    (k : qV p l e R s m args below meth c G A H0 nL Q cells slots ws lv (pc + 1) (.long (qL (f i)) :: st)) : qV p l e R s m args below meth c G A H0 nL Q cells slots ws lv pc (.int (qI i) :: .ref a :: st) :=
  fun H locs ls hP hD hS hl => va_lald (D := G.1) C.1 C.2.1 C.2.2.2.2.1.1 hP q0 3 ha rfl (qI_in hi) hdg (by rw [qAl_at hi]; exact k H locs ls hP hD hS hl)
theorem qv_last (C : qC p s m c cc own G A H0 nL) (q0 : Nat) {a n : Nat} {f : Int → Int} {i x : Int} (ha : ws[q0]? = some (a, .inl (G.2.2.2.2, n, .inr (.inl (qAl f))))) (hi : 0 ≤ i ∧ i < n ∧ i ≤ 2147483647) (hdg : decode cc pc = .ok (.lastore, 1)) {ws' : va_W} (hws : ws.set q0 (a, .inl (G.2.2.2.2, n, .inr (.inl (qAl (qU f i x))))) = ws')
    (k : qV p l e R s m args below meth c G A H0 nL Q cells slots (ws') lv (pc + 1) st) : qV p l e R s m args below meth c G A H0 nL Q cells slots ws lv pc (.long (qL x) :: .int (qI i) :: .ref a :: st) :=
  fun H locs ls hP hD hS hl => va_last (D := G.1) C.1 C.2.1 C.2.2.2.2.1.1 hP hD hS q0 3 ha rfl (qI_in hi) hdg (fun H1 locs1 hP1 hD1 hS1 => k H1 locs1 ls (by rw [qAl_up hi, hws] at hP1; exact hP1) (by rw [qAl_up hi, hws] at hD1; exact hD1) hS1 hl)
/-- fewer, or other, cells; fewer locals; other words for the same -/
theorem qv_ws {ws' : va_W} (is : List Nat) (hn : va_nd is = true) (h1 : is.map (fun i => ws[i]?) = ws'.map some) (k : qV p l e R s m args below meth c G A H0 nL Q cells slots ws' lv pc st) : qV p l e R s m args below meth c G A H0 nL Q cells slots ws lv pc st :=
  fun H locs ls hP hD hS hl => k H locs ls (hP.sub is (by
    have h2 : ∀ (w : va_W) (is : List Nat) (w' : va_W), is.map (fun i => w[i]?) = w'.map some → is.filterMap (fun i => w[i]?) = w' := by
      intro w is
      induction is with
      | nil => intro w' h; cases w' with
        | nil => rfl
        | cons a b => cases h
      | cons i is ih => intro w' h; cases w' with
        | nil => cases h
        | cons a b =>
          rw [List.map_cons, List.map_cons, List.cons.injEq] at h
          rw [List.filterMap_cons, h.1, ih b h.2]
    exact h2 ws is ws' h1)) (hD.sub is hn h1) hS hl
theorem qv_lv {lv' : List (Nat × Value)} (ks : List Nat) (h : lv_pick lv ks = lv') (k : qV p l e R s m args below meth c G A H0 nL Q cells slots ws lv' pc st) : qV p l e R s m args below meth c G A H0 nL Q cells slots ws lv pc st :=
  fun H locs ls hP hD hS hl => k H locs ls hP hD hS (lv_sub hl ks h)
theorem qv_eq {ws' : va_W} {lv' : List (Nat × Value)} {st' : List Value} (h1 : ws = ws') (h2 : lv = lv') (h3 : st = st') (k : qV p l e R s m args below meth c G A H0 nL Q cells slots ws' lv' pc st') : qV p l e R s m args below meth c G A H0 nL Q cells slots ws lv pc st := by
  subst h1; subst h2; subst h3; exact k
theorem qv_widen {c' s' : Nat} (h1 : cells ≤ c') (h2 : slots ≤ s') (k : qV p l e R s m args below meth c G A H0 nL Q c' s' ws lv pc st) : qV p l e R s m args below meth c G A H0 nL Q cells slots ws lv pc st :=
  fun H locs ls hP hD hS hl => W.widen (k := c') (n := s') h1 h2 (k H locs ls hP hD hS hl)
/-- a contract: what is answered and which cells stand behind it -/
def qQ (G : qG) (A : Nat → Prop) (post : Option Value → va_W → Prop) : Array Value → State → Outcome → State → Prop := fun _ st oc t =>
  (∃ (v : Option Value) (ws' : va_W), oc = .returned v ∧ post v ws' ∧ va_P G.1 vwCl ws' t.heap ∧ va_D A ws') ∧ va_F A st t
def qB (G : qG) (ws : va_W) (sz : Nat) (U : State) : Prop := U.heap.size = sz ∧ va_P G.1 vwCl ws U.heap ∧ qK G U ∧ va_D (fun _ => True) ws
def qM (l : Launch) (G : qG) (y : MethodName) (cc : ByteArray) (nL : Nat) (ret : Option FieldType) (rm : Room) (av : List Value) (ws : va_W) (post : Option Value → va_W → Prop) : Prop :=
  ∀ sz : Nat, Met l y [.code y cc nL ret] rm (va_Pc av (qB G ws sz)) (qQ G (va_A ws sz) post) rm.cells rm.slots (va_A ws sz)
theorem qB.blind {G : qG} {ws : va_W} {sz : Nat} {av : List Value} : FrameBlind (va_Pc av (qB G ws sz)) := fun a U g mk h =>
  ⟨h.1, h.2.1, h.2.2.1, h.2.2.2.1.blind g mk a, h.2.2.2.2⟩
/-- the start of a contract's proof -/
theorem qM.of {y : MethodName} {ret : Option FieldType} {rm : Room} {av : List Value} {post : Option Value → va_W → Prop} (hy : plainName y.cls = true) (hn : (lg_sl av).length ≤ nL)
    (body : ∀ (p : Program) (e : Env) (s : State) (m : MethodId) (below : List Frame) (meth : Method) (c : Code) (A : Nat → Prop), qC p s m c cc y.cls G A s.heap nL → meth.sig.returnType = ret → meth.locks = false → meth.name = y.name →
      qV p l e rm s m av.toArray below meth c G A s.heap nL (MQ below (qQ G A post) av.toArray s rm.cells rm.slots A) 0 0 ws (lv_args 0 av) 0 []) : qM l G y cc nL ret rm av ws post := by
  intro sz
  refine Met.ofW (cc := cc) (maxL := nL) (ret := ret) hy rfl ?_
  intro p e s m args below meth c s₁ B hml hv
  obtain ⟨rfl, hsz, hP, hK, hD0⟩ := hv
  subst hsz
  rw [lg_entry_eq]
  exact body p e s m below meth c (va_A ws s.heap.size) ⟨B.exec, B.bytes, hml, findClass_of_methodNamed B.named, hK, fun q h => Or.inr h⟩ B.returns B.notSynchronized (name_of_methodNamed B.named B.method).1 s.heap [] _ hP hD0.self va_S.rf (lv_entry av hn)
section
variable {post : Option Value → va_W → Prop}
theorem qv_iret (C : qC p s m c cc own G A s.heap nL) {x : Int32} (hr : meth.sig.returnType = some .int) (hlocks : meth.locks = false) (hdg : decode cc pc = .ok (.ireturn, 1)) (hp : post (some (.int x)) ws) : qV p l e R s m args below meth c G A s.heap nL (MQ below (qQ G A post) args s cells slots A) cells slots ws lv pc [.int x] :=
  fun H locs ls hP hD hS hl => W.iret C.1 C.2.1 hr (fun t ht hW => ⟨⟨_, ws, rfl, hp, by rw [ht]; exact hP, hD⟩, hS.F ht⟩) hS.2.2 hdg hlocks
theorem qv_zret (C : qC p s m c cc own G A s.heap nL) {x : Int} (hx : x = 0 ∨ x = 1) (hr : meth.sig.returnType = some .boolean) (hlocks : meth.locks = false) (hdg : decode cc pc = .ok (.ireturn, 1)) (hp : post (some (.int (qI x))) ws) : qV p l e R s m args below meth c G A s.heap nL (MQ below (qQ G A post) args s cells slots A) cells slots ws lv pc [.int (qI x)] :=
  fun H locs ls hP hD hS hl => W.zret C.1 C.2.1 hr (by rcases hx with rfl | rfl <;> rfl) (fun t ht hW => ⟨⟨_, ws, rfl, hp, by rw [ht]; exact hP, hD⟩, hS.F ht⟩) hS.2.2 hdg hlocks
theorem qv_lret (C : qC p s m c cc own G A s.heap nL) {x : Int64} (hr : meth.sig.returnType = some .long) (hlocks : meth.locks = false) (hdg : decode cc pc = .ok (.lreturn, 1)) (hp : post (some (.long x)) ws) : qV p l e R s m args below meth c G A s.heap nL (MQ below (qQ G A post) args s cells slots A) cells slots ws lv pc [.long x] :=
  fun H locs ls hP hD hS hl => W.lret C.1 C.2.1 hr (fun t ht hW => ⟨⟨_, ws, rfl, hp, by rw [ht]; exact hP, hD⟩, hS.F ht⟩) hS.2.2 hdg hlocks
theorem qv_vret (C : qC p s m c cc own G A s.heap nL) (hr : meth.sig.returnType = none) (hlocks : meth.locks = false) (hdg : decode cc pc = .ok (.return_, 1)) (hp : post none ws) : qV p l e R s m args below meth c G A s.heap nL (MQ below (qQ G A post) args s cells slots A) cells slots ws lv pc [] :=
  fun H locs ls hP hD hS hl => W.vret C.1 C.2.1 hr (fun t ht hW => ⟨⟨_, ws, rfl, hp, by rw [ht]; exact hP, hD⟩, hS.F ht⟩) hS.2.2 hdg hlocks
end
/-- a call, by its contract: the callee's cells wc at isC, the rest wr at isR -/
theorem qv_call {wc wr : va_W} {post : Option Value → va_W → Prop} {mc ms : Nat} {st0 : List Value} {a : Array Value} (C : qC p s m c cc own G A H0 nL) (isC isR : List Nat) (hC : isC.map (fun i => ws[i]?) = wc.map some) (hCn : va_nd isC = true) (hR : isR.map (fun i => ws[i]?) = wr.map some) (hRn : va_nd isR = true) (hdis : ∀ i ∈ isR, i ∉ isC)
    (run : ∀ (H : Heap) (locs : List Loc) (ls : Array Slot), ls.size = nL → va_P G.1 vwCl wc H → va_D (fun _ => True) wc → va_Run p l e R s m args below meth c H locs cells slots mc ms (F0 m pc ls st0) rest (qQ G (va_A wc H.size) post a) (va_A wc H.size))
    (k : ∀ (v : Option Value) (ws' : va_W), post v ws' → qV p l e R s m args below meth c G A H0 nL Q (cells + mc) (slots + ms) (wr ++ ws') lv (pc + 3) (v.toList ++ rest)) : qV p l e R s m args below meth c G A H0 nL Q cells slots ws lv pc st0 := by
  intro H locs ls hP hD hS hl
  have h2 : ∀ (w : va_W) (is : List Nat) (w' : va_W), is.map (fun i => w[i]?) = w'.map some → is.filterMap (fun i => w[i]?) = w' := by
    intro w is
    induction is with
    | nil => intro w' h; cases w' with
      | nil => rfl
      | cons a b => cases h
    | cons i is ih => intro w' h; cases w' with
      | nil => cases h
      | cons a b =>
        rw [List.map_cons, List.map_cons, List.cons.injEq] at h
        rw [List.filterMap_cons, h.1, ih b h.2]
  have hF := va_free (wc := wc) hD hS C.2.2.2.2.2 isC hC
  have hr := run H locs ls hl.1 (hP.sub isC (h2 _ _ _ hC)) ((hD.sub isC hCn hC).weaken (fun _ _ _ _ => trivial))
  intro T hT X
  obtain ⟨v, st₀, t, T', L, h0, X', hL, e1, e2, ⟨⟨v', ws', hv, hp, hP1, hD1⟩, hz, hk⟩, hst⟩ := hr T hT X
  cases hv
  rw [h0] at hz hk
  rw [← e1] at hP1 hz hk
  obtain ⟨hP9, hD9⟩ := va_join hP hD isC isR hC hR hRn hdis hk hF hP1 hD1
  obtain ⟨t2, a1, b1⟩ := k v ws' hp T'.heap (locs ++ L) ls hP9 hD9
    ⟨Nat.le_trans hS.1 hz, fun q h1 h2 => by rw [hk q (Nat.lt_of_lt_of_le h1 hS.1) (fun z => h2 (hF q z))]; exact hS.2.1 q h1 h2, fun q hq => by
      rcases List.mem_append.mp hq with h | h
      · exact hS.2.2 q h
      · exact hF _ (hL q h)⟩ hl T' rfl X'
  exact ⟨t2, hst t2 a1, b1⟩
/-- what a method is to its callers: its code, its class's state, its name, how many arguments -/
def qY (y : MethodName) (cy : ByteArray) (nY : Nat) (ret : Option FieldType) (n : Nat) : Prop := Cond.code y cy nY ret ∈ qTbl ∧ Cond.initialized y.cls ∈ qTbl ∧ (y.cls ≠ "java/lang/invoke/MethodHandle" ∧ y.cls ≠ "java/lang/invoke/VarHandle") ∧ (parseMethodDescriptor y.desc).map (fun d => d.parameters.length) = some n
section
variable {y : MethodName} {cy : ByteArray} {nY n : Nat} {ret : Option FieldType} {rm : Room} {index : Nat}
theorem qY.B (h : qY y cy nY ret n) (hK : qK G s) (hl : Cond.methodLink own index y ∈ qTbl) (hR : rm.frames + 1 ≤ R.frames ∧ 8 + (nY + 11) + rm.locals ≤ R.locals) : CallB R s args own index y cy nY ret [.code y cy nY ret] rm rm.cells rm.slots n :=
  ⟨rfl, rfl, hR.1, hR.2, fun w hw a' U hW => (hK.warm hW).word (by rw [List.mem_singleton.mp hw]; exact h.1), List.mem_singleton_self _, hK.word h.1, hK.word h.2.1, h.2.2.1, fun sig hs => by
    have h2 := h.2.2.2
    rw [hs] at h2
    exact (Option.some.inj h2).symm, hK.word hl⟩
theorem qY.N (h : qY y cy nY ret n) (hK : qK G s) {host : String} (hl : Cond.methodLinkNest own index y host ∈ qTbl) (hR : rm.frames + 1 ≤ R.frames ∧ 8 + (nY + 11) + rm.locals ≤ R.locals) : va_CN R s args own index y host cy nY ret [.code y cy nY ret] rm rm.cells rm.slots n :=
  ⟨⟨rfl, rfl, hR.1, hR.2, fun w hw a' U hW => (hK.warm hW).word (by rw [List.mem_singleton.mp hw]; exact h.1), List.mem_singleton_self _⟩, hK.word h.1, hK.word h.2.1, h.2.2.1, fun sig hs => by
    have h2 := h.2.2.2
    rw [hs] at h2
    exact (Option.some.inj h2).symm, hK.word hl⟩
theorem qv_cV {wc wr : va_W} {post : Option Value → va_W → Prop} {As : List Value} {b : Nat} (C : qC p s m c cc own G A H0 nL) (hY : qY y cy nY ret n) (hM : qM l G y cy nY ret rm (.ref b :: As) wc post) (hl : Cond.methodLink own index y ∈ qTbl) (hin : Cond.instanceMethod y ∈ qTbl) (hsel : Cond.selects y.cls y y ∈ qTbl) (q0 : Nat) {ci N : Nat} {T : u_T} {fs : List Value} (he : wc[q0]? = some (b, .inr (ci, fs))) (hc : vwCl[ci]? = some (y.cls, T, N)) (hroom : rm.frames + 1 ≤ R.frames ∧ 8 + (nY + 11) + rm.locals ≤ R.locals) (hdg : decode cc pc = .ok (.invokevirtual index, 3)) (hst : st = As.reverse ++ .ref b :: rest) (hn : As.length = n) (hw : (rest.map fun v => v.category).sum ≤ 8) (hf : cells + rm.cells ≤ R.cells ∧ slots + rm.slots ≤ R.slots) (isC isR : List Nat) (hC : isC.map (fun i => ws[i]?) = wc.map some) (hCn : va_nd isC = true) (hR : isR.map (fun i => ws[i]?) = wr.map some) (hRn : va_nd isR = true) (hdis : ∀ i ∈ isR, i ∉ isC)
    (k : ∀ (v : Option Value) (ws' : va_W), post v ws' → qV p l e R s m args below meth c G A H0 nL Q (cells + rm.cells) (slots + rm.slots) (wr ++ ws') lv (pc + 3) (v.toList ++ rest)) : qV p l e R s m args below meth c G A H0 nL Q cells slots ws lv pc st :=
  qv_call C isC isR hC hCn hR hRn hdis (fun H locs ls hsz hPc hDc => va_runV (As := As) (b := b) (rest := rest) ⟨C.1, C.2.1, C.2.2.1, C.2.2.2.1, fun w hw => C.2.2.2.2.1.word hw⟩ (hM H.size) ⟨hY.B C.2.2.2.2.1 hl hroom, C.2.2.2.2.1.word hin, C.2.2.2.2.1.word hsel⟩ ⟨qB.blind, va_recv C.2.2.2.2.1.1 hPc hc he, fun U hU hW => ⟨rfl, by rw [hU], by rw [hU]; exact hPc, C.2.2.2.2.1.warm hW, hDc⟩⟩ rfl hn hsz hst (lv_room hw) hdg hf) k
theorem qv_cVN {wc wr : va_W} {post : Option Value → va_W → Prop} {As : List Value} {b : Nat} {host : String} (C : qC p s m c cc own G A H0 nL) (hY : qY y cy nY ret n) (hM : qM l G y cy nY ret rm (.ref b :: As) wc post) (hl : Cond.methodLinkNest own index y host ∈ qTbl) (hin : Cond.instanceMethod y ∈ qTbl) (hsel : Cond.selects y.cls y y ∈ qTbl) (q0 : Nat) {ci N : Nat} {T : u_T} {fs : List Value} (he : wc[q0]? = some (b, .inr (ci, fs))) (hc : vwCl[ci]? = some (y.cls, T, N)) (hroom : rm.frames + 1 ≤ R.frames ∧ 8 + (nY + 11) + rm.locals ≤ R.locals) (hdg : decode cc pc = .ok (.invokevirtual index, 3)) (hst : st = As.reverse ++ .ref b :: rest) (hn : As.length = n) (hw : (rest.map fun v => v.category).sum ≤ 8) (hf : cells + rm.cells ≤ R.cells ∧ slots + rm.slots ≤ R.slots) (isC isR : List Nat) (hC : isC.map (fun i => ws[i]?) = wc.map some) (hCn : va_nd isC = true) (hR : isR.map (fun i => ws[i]?) = wr.map some) (hRn : va_nd isR = true) (hdis : ∀ i ∈ isR, i ∉ isC)
    (k : ∀ (v : Option Value) (ws' : va_W), post v ws' → qV p l e R s m args below meth c G A H0 nL Q (cells + rm.cells) (slots + rm.slots) (wr ++ ws') lv (pc + 3) (v.toList ++ rest)) : qV p l e R s m args below meth c G A H0 nL Q cells slots ws lv pc st :=
  qv_call C isC isR hC hCn hR hRn hdis (fun H locs ls hsz hPc hDc => va_runVN (As := As) (b := b) (rest := rest) ⟨C.1, C.2.1, C.2.2.1, C.2.2.2.1, fun w hw => C.2.2.2.2.1.word hw⟩ (hM H.size) ⟨hY.N C.2.2.2.2.1 hl hroom, C.2.2.2.2.1.word hin, C.2.2.2.2.1.word hsel⟩ ⟨qB.blind, va_recv C.2.2.2.2.1.1 hPc hc he, fun U hU hW => ⟨rfl, by rw [hU], by rw [hU]; exact hPc, C.2.2.2.2.1.warm hW, hDc⟩⟩ rfl hn hsz hst (lv_room hw) hdg hf) k
theorem qv_cS {wc wr : va_W} {post : Option Value → va_W → Prop} {As : List Value} (C : qC p s m c cc own G A H0 nL) (hY : qY y cy nY ret n) (hM : qM l G y cy nY ret rm As wc post) (hl : Cond.methodLink own index y ∈ qTbl) (hstt : Cond.static y ∈ qTbl) (hroom : rm.frames + 1 ≤ R.frames ∧ 8 + (nY + 11) + rm.locals ≤ R.locals) (hdg : decode cc pc = .ok (.invokestatic index, 3)) (hst : st = As.reverse ++ rest) (hn : As.length = n) (hw : (rest.map fun v => v.category).sum ≤ 8) (hf : cells + rm.cells ≤ R.cells ∧ slots + rm.slots ≤ R.slots) (isC isR : List Nat) (hC : isC.map (fun i => ws[i]?) = wc.map some) (hCn : va_nd isC = true) (hR : isR.map (fun i => ws[i]?) = wr.map some) (hRn : va_nd isR = true) (hdis : ∀ i ∈ isR, i ∉ isC)
    (k : ∀ (v : Option Value) (ws' : va_W), post v ws' → qV p l e R s m args below meth c G A H0 nL Q (cells + rm.cells) (slots + rm.slots) (wr ++ ws') lv (pc + 3) (v.toList ++ rest)) : qV p l e R s m args below meth c G A H0 nL Q cells slots ws lv pc st :=
  qv_call C isC isR hC hCn hR hRn hdis (fun H locs ls hsz hPc hDc => va_runS (As := As) (rest := rest) ⟨C.1, C.2.1, C.2.2.1, C.2.2.2.1, fun w hw => C.2.2.2.2.1.word hw⟩ (hM H.size) ⟨hY.B C.2.2.2.2.1 hl hroom, C.2.2.2.2.1.word hstt⟩ ⟨qB.blind, fun U hU hW => ⟨rfl, by rw [hU], by rw [hU]; exact hPc, C.2.2.2.2.1.warm hW, hDc⟩⟩ rfl hn hsz hst (lv_room hw) hdg hf) k
theorem qv_cSN {wc wr : va_W} {post : Option Value → va_W → Prop} {As : List Value} {host : String} (C : qC p s m c cc own G A H0 nL) (hY : qY y cy nY ret n) (hM : qM l G y cy nY ret rm As wc post) (hl : Cond.methodLinkNest own index y host ∈ qTbl) (hstt : Cond.static y ∈ qTbl) (hroom : rm.frames + 1 ≤ R.frames ∧ 8 + (nY + 11) + rm.locals ≤ R.locals) (hdg : decode cc pc = .ok (.invokestatic index, 3)) (hst : st = As.reverse ++ rest) (hn : As.length = n) (hw : (rest.map fun v => v.category).sum ≤ 8) (hf : cells + rm.cells ≤ R.cells ∧ slots + rm.slots ≤ R.slots) (isC isR : List Nat) (hC : isC.map (fun i => ws[i]?) = wc.map some) (hCn : va_nd isC = true) (hR : isR.map (fun i => ws[i]?) = wr.map some) (hRn : va_nd isR = true) (hdis : ∀ i ∈ isR, i ∉ isC)
    (k : ∀ (v : Option Value) (ws' : va_W), post v ws' → qV p l e R s m args below meth c G A H0 nL Q (cells + rm.cells) (slots + rm.slots) (wr ++ ws') lv (pc + 3) (v.toList ++ rest)) : qV p l e R s m args below meth c G A H0 nL Q cells slots ws lv pc st :=
  qv_call C isC isR hC hCn hR hRn hdis (fun H locs ls hsz hPc hDc => va_runSN (As := As) (rest := rest) ⟨C.1, C.2.1, C.2.2.1, C.2.2.2.1, fun w hw => C.2.2.2.2.1.word hw⟩ (hM H.size) ⟨hY.N C.2.2.2.2.1 hl hroom, C.2.2.2.2.1.word hstt, trivial⟩ ⟨qB.blind, fun U hU hW => ⟨rfl, by rw [hU], by rw [hU]; exact hPc, C.2.2.2.2.1.warm hW, hDc⟩⟩ rfl hn hsz hst (lv_room hw) hdg hf) k
theorem qv_cI {wc wr : va_W} {post : Option Value → va_W → Prop} {As : List Value} {b : Nat} (C : qC p s m c cc own G A H0 nL) (hY : qY y cy nY none n) (hM : qM l G y cy nY none rm (.ref b :: As) wc post) (hl : Cond.methodLink own index y ∈ qTbl) (hin : Cond.instanceMethod y ∈ qTbl) (hy1 : y.name = "<init>") (hroom : rm.frames + 1 ≤ R.frames ∧ 8 + (nY + 11) + rm.locals ≤ R.locals) (hdg : decode cc pc = .ok (.invokespecial index, 3)) (hst : st = As.reverse ++ .ref b :: rest) (hn : As.length = n) (hw : (rest.map fun v => v.category).sum ≤ 8) (hf : cells + rm.cells ≤ R.cells ∧ slots + rm.slots ≤ R.slots) (isC isR : List Nat) (hC : isC.map (fun i => ws[i]?) = wc.map some) (hCn : va_nd isC = true) (hR : isR.map (fun i => ws[i]?) = wr.map some) (hRn : va_nd isR = true) (hdis : ∀ i ∈ isR, i ∉ isC)
    (k : ∀ (v : Option Value) (ws' : va_W), post v ws' → qV p l e R s m args below meth c G A H0 nL Q (cells + rm.cells) (slots + rm.slots) (wr ++ ws') lv (pc + 3) (v.toList ++ rest)) : qV p l e R s m args below meth c G A H0 nL Q cells slots ws lv pc st :=
  qv_call C isC isR hC hCn hR hRn hdis (fun H locs ls hsz hPc hDc => va_runI (As := As) (b := b) (rest := rest) ⟨C.1, C.2.1, C.2.2.1, C.2.2.2.1, fun w hw => C.2.2.2.2.1.word hw⟩ (hM H.size) ⟨hY.B C.2.2.2.2.1 hl hroom, hy1, C.2.2.2.2.1.word hin⟩ ⟨qB.blind, fun U hU hW => ⟨rfl, by rw [hU], by rw [hU]; exact hPc, C.2.2.2.2.1.warm hW, hDc⟩⟩ rfl hn hsz hst (lv_room hw) hdg hf) k
theorem qv_cIN {wc wr : va_W} {post : Option Value → va_W → Prop} {As : List Value} {b : Nat} {host : String} (C : qC p s m c cc own G A H0 nL) (hY : qY y cy nY none n) (hM : qM l G y cy nY none rm (.ref b :: As) wc post) (hl : Cond.methodLinkNest own index y host ∈ qTbl) (hin : Cond.instanceMethod y ∈ qTbl) (hy1 : y.name = "<init>") (hroom : rm.frames + 1 ≤ R.frames ∧ 8 + (nY + 11) + rm.locals ≤ R.locals) (hdg : decode cc pc = .ok (.invokespecial index, 3)) (hst : st = As.reverse ++ .ref b :: rest) (hn : As.length = n) (hw : (rest.map fun v => v.category).sum ≤ 8) (hf : cells + rm.cells ≤ R.cells ∧ slots + rm.slots ≤ R.slots) (isC isR : List Nat) (hC : isC.map (fun i => ws[i]?) = wc.map some) (hCn : va_nd isC = true) (hR : isR.map (fun i => ws[i]?) = wr.map some) (hRn : va_nd isR = true) (hdis : ∀ i ∈ isR, i ∉ isC)
    (k : ∀ (v : Option Value) (ws' : va_W), post v ws' → qV p l e R s m args below meth c G A H0 nL Q (cells + rm.cells) (slots + rm.slots) (wr ++ ws') lv (pc + 3) (v.toList ++ rest)) : qV p l e R s m args below meth c G A H0 nL Q cells slots ws lv pc st :=
  qv_call C isC isR hC hCn hR hRn hdis (fun H locs ls hsz hPc hDc => va_runIN (As := As) (b := b) (rest := rest) ⟨C.1, C.2.1, C.2.2.1, C.2.2.2.1, fun w hw => C.2.2.2.2.1.word hw⟩ (hM H.size) ⟨hY.N C.2.2.2.2.1 hl hroom, hy1, C.2.2.2.2.1.word hin⟩ ⟨qB.blind, fun U hU hW => ⟨rfl, by rw [hU], by rw [hU]; exact hPc, C.2.2.2.2.1.warm hW, hDc⟩⟩ rfl hn hsz hst (lv_room hw) hdg hf) k
end
end
