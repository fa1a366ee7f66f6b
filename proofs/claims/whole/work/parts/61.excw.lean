/-- the words of exceptions that read the heap or the order of classes -/
def qXw : List Cond := [.laysStatic "java/lang/Throwable" "UNASSIGNED_STACK" "[Ljava/lang/StackTraceElement;", .laysStatic "java/lang/Throwable" "SUPPRESSED_SENTINEL" "Ljava/util/List;", .isRef (.static "java/lang/Throwable" "UNASSIGNED_STACK" "[Ljava/lang/StackTraceElement;"), .isRef (.static "java/lang/Throwable" "SUPPRESSED_SENTINEL" "Ljava/util/List;"), .castable "java/lang/IllegalArgumentException" "java/lang/IllegalArgumentException", .castable "java/lang/UnsupportedOperationException" "java/lang/UnsupportedOperationException", .castable "java/lang/IllegalStateException" "java/lang/IllegalStateException", .castable "java/lang/IndexOutOfBoundsException" "java/lang/IndexOutOfBoundsException", .declares (⟨"java/lang/RuntimeException", "<init>", "(Ljava/lang/String;)V"⟩ : MethodName), .declares (⟨"java/lang/Exception", "<init>", "(Ljava/lang/String;)V"⟩ : MethodName), .declares (⟨"java/lang/Throwable", "<init>", "(Ljava/lang/String;)V"⟩ : MethodName)]
theorem qx_nil : ∀ x ∈ ([] : List Cond), x ∈ qTbl ∨ x ∈ qXw := fun x h => by cases h
theorem qx_cons {w : Cond} {ls : List Cond} (h : w ∈ qTbl ∨ w ∈ qXw) (k : ∀ x ∈ ls, x ∈ qTbl ∨ x ∈ qXw) : ∀ x ∈ w :: ls, x ∈ qTbl ∨ x ∈ qXw := fun x hx => by
  rcases List.mem_cons.mp hx with rfl | hx
  · exact h
  · exact k x hx
set_option maxRecDepth 20000 in
theorem qx_IAE : ∀ w ∈ Bundle.ownAtoms "CounterLeaper" 58 "java/lang/IllegalArgumentException" ["java/lang/RuntimeException", "java/lang/Exception"], w ∈ qTbl ∨ w ∈ qXw := by
  refine qx_cons (Or.inl (q_t1 (List.mem_of_getElem? (i := 7) rfl) rfl)) ?_
  refine qx_cons (Or.inl (q_t2 (List.mem_of_getElem? (i := 210) rfl) rfl)) ?_
  refine qx_cons (Or.inl (q_t2 (List.mem_of_getElem? (i := 219) rfl) rfl)) ?_
  refine qx_cons (Or.inl (q_t2 (List.mem_of_getElem? (i := 224) rfl) rfl)) ?_
  refine qx_cons (Or.inl (q_t2 (List.mem_of_getElem? (i := 227) rfl) rfl)) ?_
  refine qx_cons (Or.inl (q_t2 (List.mem_of_getElem? (i := 229) rfl) rfl)) ?_
  refine qx_cons (Or.inl (q_t2 (List.mem_of_getElem? (i := 211) rfl) rfl)) ?_
  refine qx_cons (Or.inl (q_t2 (List.mem_of_getElem? (i := 212) rfl) rfl)) ?_
  refine qx_cons (Or.inl (q_t1 (List.mem_of_getElem? (i := 22) rfl) rfl)) ?_
  refine qx_cons (Or.inl (q_t1 (List.mem_of_getElem? (i := 23) rfl) rfl)) ?_
  refine qx_cons (Or.inl (q_t2 (List.mem_of_getElem? (i := 213) rfl) rfl)) ?_
  refine qx_cons (Or.inl (q_t2 (List.mem_of_getElem? (i := 218) rfl) rfl)) ?_
  refine qx_cons (Or.inl (q_t2 (List.mem_of_getElem? (i := 225) rfl) rfl)) ?_
  refine qx_cons (Or.inl (q_t3 (List.mem_of_getElem? (i := 5) rfl) rfl)) ?_
  refine qx_cons (Or.inl (q_t2 (List.mem_of_getElem? (i := 200) rfl) rfl)) ?_
  refine qx_cons (Or.inl (q_t3 (List.mem_of_getElem? (i := 6) rfl) rfl)) ?_
  refine qx_cons (Or.inl (q_t2 (List.mem_of_getElem? (i := 202) rfl) rfl)) ?_
  refine qx_cons (Or.inl (q_t3 (List.mem_of_getElem? (i := 7) rfl) rfl)) ?_
  refine qx_cons (Or.inl (q_t2 (List.mem_of_getElem? (i := 204) rfl) rfl)) ?_
  refine qx_cons (Or.inl (q_t2 (List.mem_of_getElem? (i := 214) rfl) rfl)) ?_
  refine qx_cons (Or.inr (List.mem_of_getElem? (i := 0) rfl)) ?_
  refine qx_cons (Or.inl (q_t2 (List.mem_of_getElem? (i := 216) rfl) rfl)) ?_
  refine qx_cons (Or.inr (List.mem_of_getElem? (i := 1) rfl)) ?_
  refine qx_cons (Or.inl (q_t2 (List.mem_of_getElem? (i := 206) rfl) rfl)) ?_
  refine qx_cons (Or.inl (q_t3 (List.mem_of_getElem? (i := 1) rfl) rfl)) ?_
  refine qx_cons (Or.inl (q_t3 (List.mem_of_getElem? (i := 2) rfl) rfl)) ?_
  refine qx_cons (Or.inl (q_t3 (List.mem_of_getElem? (i := 4) rfl) rfl)) ?_
  refine qx_cons (Or.inl (q_t2 (List.mem_of_getElem? (i := 206) rfl) rfl)) ?_
  refine qx_cons (Or.inl (q_t2 (List.mem_of_getElem? (i := 232) rfl) rfl)) ?_
  refine qx_cons (Or.inl (q_t2 (List.mem_of_getElem? (i := 233) rfl) rfl)) ?_
  refine qx_cons (Or.inl (q_t2 (List.mem_of_getElem? (i := 234) rfl) rfl)) ?_
  refine qx_cons (Or.inl (q_t2 (List.mem_of_getElem? (i := 235) rfl) rfl)) ?_
  refine qx_cons (Or.inr (List.mem_of_getElem? (i := 8) rfl)) ?_
  refine qx_cons (Or.inl (q_t2 (List.mem_of_getElem? (i := 235) rfl) rfl)) ?_
  refine qx_cons (Or.inl (q_t2 (List.mem_of_getElem? (i := 236) rfl) rfl)) ?_
  refine qx_cons (Or.inl (q_t2 (List.mem_of_getElem? (i := 237) rfl) rfl)) ?_
  refine qx_cons (Or.inl (q_t2 (List.mem_of_getElem? (i := 238) rfl) rfl)) ?_
  refine qx_cons (Or.inr (List.mem_of_getElem? (i := 9) rfl)) ?_
  refine qx_cons (Or.inl (q_t2 (List.mem_of_getElem? (i := 238) rfl) rfl)) ?_
  refine qx_cons (Or.inl (q_t2 (List.mem_of_getElem? (i := 239) rfl) rfl)) ?_
  refine qx_cons (Or.inl (q_t3 (List.mem_of_getElem? (i := 0) rfl) rfl)) ?_
  refine qx_cons (Or.inl (q_t3 (List.mem_of_getElem? (i := 1) rfl) rfl)) ?_
  refine qx_cons (Or.inr (List.mem_of_getElem? (i := 10) rfl)) ?_
  refine qx_cons (Or.inl (q_t2 (List.mem_of_getElem? (i := 231) rfl) rfl)) ?_
  refine qx_cons (Or.inl (q_t2 (List.mem_of_getElem? (i := 189) rfl) rfl)) ?_
  refine qx_cons (Or.inr (List.mem_of_getElem? (i := 4) rfl)) ?_
  refine qx_cons (Or.inl (q_t2 (List.mem_of_getElem? (i := 197) rfl) rfl)) ?_
  refine qx_cons (Or.inl (q_t2 (List.mem_of_getElem? (i := 198) rfl) rfl)) ?_
  refine qx_cons (Or.inl (q_t2 (List.mem_of_getElem? (i := 199) rfl) rfl)) ?_
  refine qx_cons (Or.inl (q_t2 (List.mem_of_getElem? (i := 201) rfl) rfl)) ?_
  refine qx_cons (Or.inl (q_t2 (List.mem_of_getElem? (i := 203) rfl) rfl)) ?_
  refine qx_cons (Or.inl (q_t2 (List.mem_of_getElem? (i := 205) rfl) rfl)) ?_
  refine qx_cons (Or.inr (List.mem_of_getElem? (i := 2) rfl)) ?_
  refine qx_cons (Or.inr (List.mem_of_getElem? (i := 3) rfl)) ?_
  refine qx_cons (Or.inl (q_t2 (List.mem_of_getElem? (i := 209) rfl) rfl)) ?_
  refine qx_cons (Or.inl (q_t2 (List.mem_of_getElem? (i := 208) rfl) rfl)) ?_
  refine qx_cons (Or.inl (q_t2 (List.mem_of_getElem? (i := 207) rfl) rfl)) ?_
  exact qx_nil
theorem qx_IAE_cl : Cond.classLink "CounterLeaper" 54 "java/lang/IllegalArgumentException" ∈ qTbl := q_t2 (List.mem_of_getElem? (i := 188) rfl) rfl
theorem qx_IAE_in : Cond.instantiable "java/lang/IllegalArgumentException" 6 ∈ qTbl := q_t2 (List.mem_of_getElem? (i := 189) rfl) rfl
theorem qx_IAE_ini : Cond.initialized "java/lang/IllegalArgumentException" ∈ qTbl := q_t1 (List.mem_of_getElem? (i := 10) rfl) rfl
set_option maxRecDepth 20000 in
theorem qx_UOE : ∀ w ∈ Bundle.ownAtoms "CounterLeaper" 75 "java/lang/UnsupportedOperationException" ["java/lang/RuntimeException", "java/lang/Exception"], w ∈ qTbl ∨ w ∈ qXw := by
  refine qx_cons (Or.inl (q_t1 (List.mem_of_getElem? (i := 7) rfl) rfl)) ?_
  refine qx_cons (Or.inl (q_t2 (List.mem_of_getElem? (i := 210) rfl) rfl)) ?_
  refine qx_cons (Or.inl (q_t2 (List.mem_of_getElem? (i := 219) rfl) rfl)) ?_
  refine qx_cons (Or.inl (q_t2 (List.mem_of_getElem? (i := 224) rfl) rfl)) ?_
  refine qx_cons (Or.inl (q_t2 (List.mem_of_getElem? (i := 227) rfl) rfl)) ?_
  refine qx_cons (Or.inl (q_t2 (List.mem_of_getElem? (i := 229) rfl) rfl)) ?_
  refine qx_cons (Or.inl (q_t2 (List.mem_of_getElem? (i := 211) rfl) rfl)) ?_
  refine qx_cons (Or.inl (q_t2 (List.mem_of_getElem? (i := 212) rfl) rfl)) ?_
  refine qx_cons (Or.inl (q_t1 (List.mem_of_getElem? (i := 22) rfl) rfl)) ?_
  refine qx_cons (Or.inl (q_t1 (List.mem_of_getElem? (i := 23) rfl) rfl)) ?_
  refine qx_cons (Or.inl (q_t2 (List.mem_of_getElem? (i := 213) rfl) rfl)) ?_
  refine qx_cons (Or.inl (q_t2 (List.mem_of_getElem? (i := 218) rfl) rfl)) ?_
  refine qx_cons (Or.inl (q_t2 (List.mem_of_getElem? (i := 225) rfl) rfl)) ?_
  refine qx_cons (Or.inl (q_t3 (List.mem_of_getElem? (i := 5) rfl) rfl)) ?_
  refine qx_cons (Or.inl (q_t2 (List.mem_of_getElem? (i := 200) rfl) rfl)) ?_
  refine qx_cons (Or.inl (q_t3 (List.mem_of_getElem? (i := 6) rfl) rfl)) ?_
  refine qx_cons (Or.inl (q_t2 (List.mem_of_getElem? (i := 202) rfl) rfl)) ?_
  refine qx_cons (Or.inl (q_t3 (List.mem_of_getElem? (i := 7) rfl) rfl)) ?_
  refine qx_cons (Or.inl (q_t2 (List.mem_of_getElem? (i := 204) rfl) rfl)) ?_
  refine qx_cons (Or.inl (q_t2 (List.mem_of_getElem? (i := 214) rfl) rfl)) ?_
  refine qx_cons (Or.inr (List.mem_of_getElem? (i := 0) rfl)) ?_
  refine qx_cons (Or.inl (q_t2 (List.mem_of_getElem? (i := 216) rfl) rfl)) ?_
  refine qx_cons (Or.inr (List.mem_of_getElem? (i := 1) rfl)) ?_
  refine qx_cons (Or.inl (q_t2 (List.mem_of_getElem? (i := 206) rfl) rfl)) ?_
  refine qx_cons (Or.inl (q_t3 (List.mem_of_getElem? (i := 1) rfl) rfl)) ?_
  refine qx_cons (Or.inl (q_t3 (List.mem_of_getElem? (i := 2) rfl) rfl)) ?_
  refine qx_cons (Or.inl (q_t3 (List.mem_of_getElem? (i := 4) rfl) rfl)) ?_
  refine qx_cons (Or.inl (q_t2 (List.mem_of_getElem? (i := 206) rfl) rfl)) ?_
  refine qx_cons (Or.inl (q_t3 (List.mem_of_getElem? (i := 32) rfl) rfl)) ?_
  refine qx_cons (Or.inl (q_t3 (List.mem_of_getElem? (i := 33) rfl) rfl)) ?_
  refine qx_cons (Or.inl (q_t3 (List.mem_of_getElem? (i := 34) rfl) rfl)) ?_
  refine qx_cons (Or.inl (q_t2 (List.mem_of_getElem? (i := 235) rfl) rfl)) ?_
  refine qx_cons (Or.inr (List.mem_of_getElem? (i := 8) rfl)) ?_
  refine qx_cons (Or.inl (q_t2 (List.mem_of_getElem? (i := 235) rfl) rfl)) ?_
  refine qx_cons (Or.inl (q_t2 (List.mem_of_getElem? (i := 236) rfl) rfl)) ?_
  refine qx_cons (Or.inl (q_t2 (List.mem_of_getElem? (i := 237) rfl) rfl)) ?_
  refine qx_cons (Or.inl (q_t2 (List.mem_of_getElem? (i := 238) rfl) rfl)) ?_
  refine qx_cons (Or.inr (List.mem_of_getElem? (i := 9) rfl)) ?_
  refine qx_cons (Or.inl (q_t2 (List.mem_of_getElem? (i := 238) rfl) rfl)) ?_
  refine qx_cons (Or.inl (q_t2 (List.mem_of_getElem? (i := 239) rfl) rfl)) ?_
  refine qx_cons (Or.inl (q_t3 (List.mem_of_getElem? (i := 0) rfl) rfl)) ?_
  refine qx_cons (Or.inl (q_t3 (List.mem_of_getElem? (i := 1) rfl) rfl)) ?_
  refine qx_cons (Or.inr (List.mem_of_getElem? (i := 10) rfl)) ?_
  refine qx_cons (Or.inl (q_t3 (List.mem_of_getElem? (i := 31) rfl) rfl)) ?_
  refine qx_cons (Or.inl (q_t3 (List.mem_of_getElem? (i := 22) rfl) rfl)) ?_
  refine qx_cons (Or.inr (List.mem_of_getElem? (i := 5) rfl)) ?_
  refine qx_cons (Or.inl (q_t3 (List.mem_of_getElem? (i := 24) rfl) rfl)) ?_
  refine qx_cons (Or.inl (q_t2 (List.mem_of_getElem? (i := 223) rfl) rfl)) ?_
  refine qx_cons (Or.inl (q_t3 (List.mem_of_getElem? (i := 25) rfl) rfl)) ?_
  refine qx_cons (Or.inl (q_t3 (List.mem_of_getElem? (i := 26) rfl) rfl)) ?_
  refine qx_cons (Or.inl (q_t3 (List.mem_of_getElem? (i := 27) rfl) rfl)) ?_
  refine qx_cons (Or.inl (q_t3 (List.mem_of_getElem? (i := 28) rfl) rfl)) ?_
  refine qx_cons (Or.inr (List.mem_of_getElem? (i := 2) rfl)) ?_
  refine qx_cons (Or.inr (List.mem_of_getElem? (i := 3) rfl)) ?_
  refine qx_cons (Or.inl (q_t2 (List.mem_of_getElem? (i := 209) rfl) rfl)) ?_
  refine qx_cons (Or.inl (q_t2 (List.mem_of_getElem? (i := 208) rfl) rfl)) ?_
  refine qx_cons (Or.inl (q_t3 (List.mem_of_getElem? (i := 29) rfl) rfl)) ?_
  exact qx_nil
theorem qx_UOE_cl : Cond.classLink "CounterLeaper" 71 "java/lang/UnsupportedOperationException" ∈ qTbl := q_t3 (List.mem_of_getElem? (i := 21) rfl) rfl
theorem qx_UOE_in : Cond.instantiable "java/lang/UnsupportedOperationException" 6 ∈ qTbl := q_t3 (List.mem_of_getElem? (i := 22) rfl) rfl
theorem qx_UOE_ini : Cond.initialized "java/lang/UnsupportedOperationException" ∈ qTbl := q_t1 (List.mem_of_getElem? (i := 11) rfl) rfl
set_option maxRecDepth 20000 in
theorem qx_ISE : ∀ w ∈ Bundle.ownAtoms "CounterLeaper" 124 "java/lang/IllegalStateException" ["java/lang/RuntimeException", "java/lang/Exception"], w ∈ qTbl ∨ w ∈ qXw := by
  refine qx_cons (Or.inl (q_t1 (List.mem_of_getElem? (i := 7) rfl) rfl)) ?_
  refine qx_cons (Or.inl (q_t2 (List.mem_of_getElem? (i := 210) rfl) rfl)) ?_
  refine qx_cons (Or.inl (q_t2 (List.mem_of_getElem? (i := 219) rfl) rfl)) ?_
  refine qx_cons (Or.inl (q_t2 (List.mem_of_getElem? (i := 224) rfl) rfl)) ?_
  refine qx_cons (Or.inl (q_t2 (List.mem_of_getElem? (i := 227) rfl) rfl)) ?_
  refine qx_cons (Or.inl (q_t2 (List.mem_of_getElem? (i := 229) rfl) rfl)) ?_
  refine qx_cons (Or.inl (q_t2 (List.mem_of_getElem? (i := 211) rfl) rfl)) ?_
  refine qx_cons (Or.inl (q_t2 (List.mem_of_getElem? (i := 212) rfl) rfl)) ?_
  refine qx_cons (Or.inl (q_t1 (List.mem_of_getElem? (i := 22) rfl) rfl)) ?_
  refine qx_cons (Or.inl (q_t1 (List.mem_of_getElem? (i := 23) rfl) rfl)) ?_
  refine qx_cons (Or.inl (q_t2 (List.mem_of_getElem? (i := 213) rfl) rfl)) ?_
  refine qx_cons (Or.inl (q_t2 (List.mem_of_getElem? (i := 218) rfl) rfl)) ?_
  refine qx_cons (Or.inl (q_t2 (List.mem_of_getElem? (i := 225) rfl) rfl)) ?_
  refine qx_cons (Or.inl (q_t3 (List.mem_of_getElem? (i := 5) rfl) rfl)) ?_
  refine qx_cons (Or.inl (q_t2 (List.mem_of_getElem? (i := 200) rfl) rfl)) ?_
  refine qx_cons (Or.inl (q_t3 (List.mem_of_getElem? (i := 6) rfl) rfl)) ?_
  refine qx_cons (Or.inl (q_t2 (List.mem_of_getElem? (i := 202) rfl) rfl)) ?_
  refine qx_cons (Or.inl (q_t3 (List.mem_of_getElem? (i := 7) rfl) rfl)) ?_
  refine qx_cons (Or.inl (q_t2 (List.mem_of_getElem? (i := 204) rfl) rfl)) ?_
  refine qx_cons (Or.inl (q_t2 (List.mem_of_getElem? (i := 214) rfl) rfl)) ?_
  refine qx_cons (Or.inr (List.mem_of_getElem? (i := 0) rfl)) ?_
  refine qx_cons (Or.inl (q_t2 (List.mem_of_getElem? (i := 216) rfl) rfl)) ?_
  refine qx_cons (Or.inr (List.mem_of_getElem? (i := 1) rfl)) ?_
  refine qx_cons (Or.inl (q_t2 (List.mem_of_getElem? (i := 206) rfl) rfl)) ?_
  refine qx_cons (Or.inl (q_t3 (List.mem_of_getElem? (i := 1) rfl) rfl)) ?_
  refine qx_cons (Or.inl (q_t3 (List.mem_of_getElem? (i := 2) rfl) rfl)) ?_
  refine qx_cons (Or.inl (q_t3 (List.mem_of_getElem? (i := 4) rfl) rfl)) ?_
  refine qx_cons (Or.inl (q_t2 (List.mem_of_getElem? (i := 206) rfl) rfl)) ?_
  refine qx_cons (Or.inl (q_t3 (List.mem_of_getElem? (i := 65) rfl) rfl)) ?_
  refine qx_cons (Or.inl (q_t3 (List.mem_of_getElem? (i := 66) rfl) rfl)) ?_
  refine qx_cons (Or.inl (q_t3 (List.mem_of_getElem? (i := 67) rfl) rfl)) ?_
  refine qx_cons (Or.inl (q_t2 (List.mem_of_getElem? (i := 235) rfl) rfl)) ?_
  refine qx_cons (Or.inr (List.mem_of_getElem? (i := 8) rfl)) ?_
  refine qx_cons (Or.inl (q_t2 (List.mem_of_getElem? (i := 235) rfl) rfl)) ?_
  refine qx_cons (Or.inl (q_t2 (List.mem_of_getElem? (i := 236) rfl) rfl)) ?_
  refine qx_cons (Or.inl (q_t2 (List.mem_of_getElem? (i := 237) rfl) rfl)) ?_
  refine qx_cons (Or.inl (q_t2 (List.mem_of_getElem? (i := 238) rfl) rfl)) ?_
  refine qx_cons (Or.inr (List.mem_of_getElem? (i := 9) rfl)) ?_
  refine qx_cons (Or.inl (q_t2 (List.mem_of_getElem? (i := 238) rfl) rfl)) ?_
  refine qx_cons (Or.inl (q_t2 (List.mem_of_getElem? (i := 239) rfl) rfl)) ?_
  refine qx_cons (Or.inl (q_t3 (List.mem_of_getElem? (i := 0) rfl) rfl)) ?_
  refine qx_cons (Or.inl (q_t3 (List.mem_of_getElem? (i := 1) rfl) rfl)) ?_
  refine qx_cons (Or.inr (List.mem_of_getElem? (i := 10) rfl)) ?_
  refine qx_cons (Or.inl (q_t3 (List.mem_of_getElem? (i := 64) rfl) rfl)) ?_
  refine qx_cons (Or.inl (q_t3 (List.mem_of_getElem? (i := 55) rfl) rfl)) ?_
  refine qx_cons (Or.inr (List.mem_of_getElem? (i := 6) rfl)) ?_
  refine qx_cons (Or.inl (q_t3 (List.mem_of_getElem? (i := 57) rfl) rfl)) ?_
  refine qx_cons (Or.inl (q_t2 (List.mem_of_getElem? (i := 221) rfl) rfl)) ?_
  refine qx_cons (Or.inl (q_t3 (List.mem_of_getElem? (i := 58) rfl) rfl)) ?_
  refine qx_cons (Or.inl (q_t3 (List.mem_of_getElem? (i := 59) rfl) rfl)) ?_
  refine qx_cons (Or.inl (q_t3 (List.mem_of_getElem? (i := 60) rfl) rfl)) ?_
  refine qx_cons (Or.inl (q_t3 (List.mem_of_getElem? (i := 61) rfl) rfl)) ?_
  refine qx_cons (Or.inr (List.mem_of_getElem? (i := 2) rfl)) ?_
  refine qx_cons (Or.inr (List.mem_of_getElem? (i := 3) rfl)) ?_
  refine qx_cons (Or.inl (q_t2 (List.mem_of_getElem? (i := 209) rfl) rfl)) ?_
  refine qx_cons (Or.inl (q_t2 (List.mem_of_getElem? (i := 208) rfl) rfl)) ?_
  refine qx_cons (Or.inl (q_t3 (List.mem_of_getElem? (i := 62) rfl) rfl)) ?_
  exact qx_nil
theorem qx_ISE_cl : Cond.classLink "CounterLeaper" 120 "java/lang/IllegalStateException" ∈ qTbl := q_t3 (List.mem_of_getElem? (i := 54) rfl) rfl
theorem qx_ISE_in : Cond.instantiable "java/lang/IllegalStateException" 6 ∈ qTbl := q_t3 (List.mem_of_getElem? (i := 55) rfl) rfl
theorem qx_ISE_ini : Cond.initialized "java/lang/IllegalStateException" ∈ qTbl := q_t1 (List.mem_of_getElem? (i := 14) rfl) rfl
set_option maxRecDepth 20000 in
theorem qx_IOE : ∀ w ∈ Bundle.ownAtoms "CounterLeaper" 180 "java/lang/IndexOutOfBoundsException" ["java/lang/RuntimeException", "java/lang/Exception"], w ∈ qTbl ∨ w ∈ qXw := by
  refine qx_cons (Or.inl (q_t1 (List.mem_of_getElem? (i := 7) rfl) rfl)) ?_
  refine qx_cons (Or.inl (q_t2 (List.mem_of_getElem? (i := 210) rfl) rfl)) ?_
  refine qx_cons (Or.inl (q_t2 (List.mem_of_getElem? (i := 219) rfl) rfl)) ?_
  refine qx_cons (Or.inl (q_t2 (List.mem_of_getElem? (i := 224) rfl) rfl)) ?_
  refine qx_cons (Or.inl (q_t2 (List.mem_of_getElem? (i := 227) rfl) rfl)) ?_
  refine qx_cons (Or.inl (q_t2 (List.mem_of_getElem? (i := 229) rfl) rfl)) ?_
  refine qx_cons (Or.inl (q_t2 (List.mem_of_getElem? (i := 211) rfl) rfl)) ?_
  refine qx_cons (Or.inl (q_t2 (List.mem_of_getElem? (i := 212) rfl) rfl)) ?_
  refine qx_cons (Or.inl (q_t1 (List.mem_of_getElem? (i := 22) rfl) rfl)) ?_
  refine qx_cons (Or.inl (q_t1 (List.mem_of_getElem? (i := 23) rfl) rfl)) ?_
  refine qx_cons (Or.inl (q_t2 (List.mem_of_getElem? (i := 213) rfl) rfl)) ?_
  refine qx_cons (Or.inl (q_t2 (List.mem_of_getElem? (i := 218) rfl) rfl)) ?_
  refine qx_cons (Or.inl (q_t2 (List.mem_of_getElem? (i := 225) rfl) rfl)) ?_
  refine qx_cons (Or.inl (q_t3 (List.mem_of_getElem? (i := 5) rfl) rfl)) ?_
  refine qx_cons (Or.inl (q_t2 (List.mem_of_getElem? (i := 200) rfl) rfl)) ?_
  refine qx_cons (Or.inl (q_t3 (List.mem_of_getElem? (i := 6) rfl) rfl)) ?_
  refine qx_cons (Or.inl (q_t2 (List.mem_of_getElem? (i := 202) rfl) rfl)) ?_
  refine qx_cons (Or.inl (q_t3 (List.mem_of_getElem? (i := 7) rfl) rfl)) ?_
  refine qx_cons (Or.inl (q_t2 (List.mem_of_getElem? (i := 204) rfl) rfl)) ?_
  refine qx_cons (Or.inl (q_t2 (List.mem_of_getElem? (i := 214) rfl) rfl)) ?_
  refine qx_cons (Or.inr (List.mem_of_getElem? (i := 0) rfl)) ?_
  refine qx_cons (Or.inl (q_t2 (List.mem_of_getElem? (i := 216) rfl) rfl)) ?_
  refine qx_cons (Or.inr (List.mem_of_getElem? (i := 1) rfl)) ?_
  refine qx_cons (Or.inl (q_t2 (List.mem_of_getElem? (i := 206) rfl) rfl)) ?_
  refine qx_cons (Or.inl (q_t3 (List.mem_of_getElem? (i := 1) rfl) rfl)) ?_
  refine qx_cons (Or.inl (q_t3 (List.mem_of_getElem? (i := 2) rfl) rfl)) ?_
  refine qx_cons (Or.inl (q_t3 (List.mem_of_getElem? (i := 4) rfl) rfl)) ?_
  refine qx_cons (Or.inl (q_t2 (List.mem_of_getElem? (i := 206) rfl) rfl)) ?_
  refine qx_cons (Or.inl (q_t3 (List.mem_of_getElem? (i := 140) rfl) rfl)) ?_
  refine qx_cons (Or.inl (q_t3 (List.mem_of_getElem? (i := 141) rfl) rfl)) ?_
  refine qx_cons (Or.inl (q_t3 (List.mem_of_getElem? (i := 142) rfl) rfl)) ?_
  refine qx_cons (Or.inl (q_t2 (List.mem_of_getElem? (i := 235) rfl) rfl)) ?_
  refine qx_cons (Or.inr (List.mem_of_getElem? (i := 8) rfl)) ?_
  refine qx_cons (Or.inl (q_t2 (List.mem_of_getElem? (i := 235) rfl) rfl)) ?_
  refine qx_cons (Or.inl (q_t2 (List.mem_of_getElem? (i := 236) rfl) rfl)) ?_
  refine qx_cons (Or.inl (q_t2 (List.mem_of_getElem? (i := 237) rfl) rfl)) ?_
  refine qx_cons (Or.inl (q_t2 (List.mem_of_getElem? (i := 238) rfl) rfl)) ?_
  refine qx_cons (Or.inr (List.mem_of_getElem? (i := 9) rfl)) ?_
  refine qx_cons (Or.inl (q_t2 (List.mem_of_getElem? (i := 238) rfl) rfl)) ?_
  refine qx_cons (Or.inl (q_t2 (List.mem_of_getElem? (i := 239) rfl) rfl)) ?_
  refine qx_cons (Or.inl (q_t3 (List.mem_of_getElem? (i := 0) rfl) rfl)) ?_
  refine qx_cons (Or.inl (q_t3 (List.mem_of_getElem? (i := 1) rfl) rfl)) ?_
  refine qx_cons (Or.inr (List.mem_of_getElem? (i := 10) rfl)) ?_
  refine qx_cons (Or.inl (q_t3 (List.mem_of_getElem? (i := 139) rfl) rfl)) ?_
  refine qx_cons (Or.inl (q_t3 (List.mem_of_getElem? (i := 130) rfl) rfl)) ?_
  refine qx_cons (Or.inr (List.mem_of_getElem? (i := 7) rfl)) ?_
  refine qx_cons (Or.inl (q_t3 (List.mem_of_getElem? (i := 132) rfl) rfl)) ?_
  refine qx_cons (Or.inl (q_t2 (List.mem_of_getElem? (i := 222) rfl) rfl)) ?_
  refine qx_cons (Or.inl (q_t3 (List.mem_of_getElem? (i := 133) rfl) rfl)) ?_
  refine qx_cons (Or.inl (q_t3 (List.mem_of_getElem? (i := 134) rfl) rfl)) ?_
  refine qx_cons (Or.inl (q_t3 (List.mem_of_getElem? (i := 135) rfl) rfl)) ?_
  refine qx_cons (Or.inl (q_t3 (List.mem_of_getElem? (i := 136) rfl) rfl)) ?_
  refine qx_cons (Or.inr (List.mem_of_getElem? (i := 2) rfl)) ?_
  refine qx_cons (Or.inr (List.mem_of_getElem? (i := 3) rfl)) ?_
  refine qx_cons (Or.inl (q_t2 (List.mem_of_getElem? (i := 209) rfl) rfl)) ?_
  refine qx_cons (Or.inl (q_t2 (List.mem_of_getElem? (i := 208) rfl) rfl)) ?_
  refine qx_cons (Or.inl (q_t3 (List.mem_of_getElem? (i := 137) rfl) rfl)) ?_
  exact qx_nil
theorem qx_IOE_cl : Cond.classLink "CounterLeaper" 176 "java/lang/IndexOutOfBoundsException" ∈ qTbl := q_t3 (List.mem_of_getElem? (i := 129) rfl) rfl
theorem qx_IOE_in : Cond.instantiable "java/lang/IndexOutOfBoundsException" 6 ∈ qTbl := q_t3 (List.mem_of_getElem? (i := 130) rfl) rfl
theorem qx_IOE_ini : Cond.initialized "java/lang/IndexOutOfBoundsException" ∈ qTbl := q_t1 (List.mem_of_getElem? (i := 15) rfl) rfl
def qXs : List (Nat × String) := [(56, "n is not 1 .. 8"), (65, "a character is not 32 .. 126"), (73, "the text would be too long"), (115, "no such counter or value"), (122, "there is no program"), (125, "moves is not 0 .. 1000"), (141, "steps is not 0 .. 1000"), (151, "steps is not 0 .. 1000000000000000"), (164, "it takes too many leaps and steps"), (178, "no such loop or counter"), (188, "the pass is not full")]
