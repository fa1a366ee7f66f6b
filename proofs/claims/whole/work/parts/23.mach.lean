/-! steps and leaps of the machine -/
def m_sp (k r t : Int → Int) (pl : Int) (v : Int → Int) : Int := if k pl = 0 ∨ (k pl = 1 ∧ 0 < v (r pl)) then pl + 1 else t pl
def m_sv (k r : Int → Int) (pl : Int) (v : Int → Int) : Int → Int := if k pl = 0 then qU v (r pl) (v (r pl) + 1) else if k pl = 1 ∧ 0 < v (r pl) then qU v (r pl) (v (r pl) - 1) else v
/-- the first j counters moved by q times δ -/
def m_lf (v δ : Int → Int) (q j : Int) : Int → Int := fun c => if 0 ≤ c ∧ c < j then v c + q * δ c else v c
theorem m_lf_0 (v δ : Int → Int) (q : Int) : m_lf v δ q 0 = v := by
  funext c
  unfold m_lf
  rw [if_neg (by omega)]
theorem m_lf_at {v δ : Int → Int} {q j c : Int} (h : ¬ (0 ≤ c ∧ c < j)) : m_lf v δ q j c = v c := by
  unfold m_lf
  rw [if_neg h]
theorem m_lf_s {v δ : Int → Int} {q j : Int} (h : 0 ≤ j) : qU (m_lf v δ q j) j (m_lf v δ q j j + q * δ j) = m_lf v δ q (j + 1) := by
  funext c
  unfold qU
  by_cases hc : c = j
  · rw [if_pos hc, m_lf_at (by omega), hc]
    unfold m_lf
    rw [if_pos (by omega)]
  · rw [if_neg hc]
    unfold m_lf
    by_cases h2 : 0 ≤ c ∧ c < j
    · rw [if_pos h2, if_pos (by omega)]
    · rw [if_neg h2, if_neg (by omega)]
theorem qU_rg {f : Int → Int} {lo hi i x : Int} (h : ∀ c, lo ≤ f c ∧ f c ≤ hi) (hx : lo ≤ x ∧ x ≤ hi) : ∀ c, lo ≤ qU f i x c ∧ qU f i x c ≤ hi := by
  intro c
  unfold qU
  by_cases hc : c = i
  · rw [if_pos hc]
    exact hx
  · rw [if_neg hc]
    exact h c
theorem qI_nb {z : Int} (h : 0 ≤ z ∧ z ≤ 1) : narrow .boolean (.int (qI z)) = .int (qI z) := by
  rcases (show z = 0 ∨ z = 1 by omega) with rfl | rfl <;> rfl
theorem qI_fb {z : Int} (h : 0 ≤ z ∧ z ≤ 1) : fits .boolean (.int (qI z)) = true := by
  rcases (show z = 0 ∨ z = 1 by omega) with rfl | rfl <;> rfl
