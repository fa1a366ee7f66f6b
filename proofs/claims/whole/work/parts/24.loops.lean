/-! arrays filled from the left; the table of loops -/
def m_up (f g : Int → Int) (j : Int) : Int → Int := fun i => if 0 ≤ i ∧ i < j then g i else f i
theorem m_up_0 (f g : Int → Int) : m_up f g 0 = f := by
  funext i
  unfold m_up
  rw [if_neg (by omega)]
theorem m_up_s {f g : Int → Int} {j : Int} (h : 0 ≤ j) : qU (m_up f g j) j (g j) = m_up f g (j + 1) := by
  funext i
  unfold qU m_up
  by_cases hi : i = j
  · rw [if_pos hi, if_pos (by omega), hi]
  · rw [if_neg hi]
    by_cases h2 : 0 ≤ i ∧ i < j
    · rw [if_pos h2, if_pos (by omega)]
    · rw [if_neg h2, if_neg (by omega)]
theorem m_up_in {f g : Int → Int} {j i : Int} (h : 0 ≤ i ∧ i < j) : m_up f g j i = g i := by
  unfold m_up
  rw [if_pos h]
theorem m_up_out {f g : Int → Int} {j i : Int} (h : ¬ (0 ≤ i ∧ i < j)) : m_up f g j i = f i := by
  unfold m_up
  rw [if_neg h]
theorem m_cn_up (e : Int → Int) {i : Int} (h : 0 ≤ i) : m_cn e (i + 1).toNat = m_cn e i.toNat + (if 0 ≤ e i then 1 else 0) := by
  have h1 : (i + 1).toNat = i.toNat + 1 := by omega
  rw [h1, m_cn, Int.toNat_of_nonneg h]
theorem m_cn_mono (e : Int → Int) : ∀ (a b : Nat), a ≤ b → m_cn e a ≤ m_cn e b
  | a, 0, h => by
    have : a = 0 := by omega
    rw [this]
    exact Int.le_refl _
  | a, b + 1, h => by
    by_cases hb : a = b + 1
    · rw [hb]
      exact Int.le_refl _
    · have h1 := m_cn_mono e a b (by omega)
      rw [m_cn]
      split <;> omega
theorem m_cn_lt {e : Int → Int} {i j : Int} (h0 : 0 ≤ j) (h : j < i) (he : 0 ≤ e j) : m_cn e j.toNat < m_cn e i.toNat := by
  have h1 := m_cn_mono e (j + 1).toNat i.toNat (by omega)
  have h2 := m_cn_up e h0
  rw [if_pos he] at h2
  omega
/-- the table of loops, for the heads below i -/
def m_lo (e d : Int → Int) (i : Int) (lb lh le ld : Int → Int) : Prop := ∀ j, 0 ≤ j → j < i →
  (0 ≤ e j → lb j = m_cn e j.toNat ∧ lh (m_cn e j.toNat) = j ∧ le (m_cn e j.toNat) = e j ∧ ld (m_cn e j.toNat) = d j) ∧ (¬ 0 ≤ e j → lb j = -1)
theorem m_lo_0 (e d lb lh le ld : Int → Int) : m_lo e d 0 lb lh le ld := fun j h1 h2 => by omega
theorem m_lo_no {e d lb lh le ld : Int → Int} {i : Int} (h : m_lo e d i lb lh le ld) (h0 : 0 ≤ i) (he : ¬ 0 ≤ e i) : m_lo e d (i + 1) (qU lb i (-1)) lh le ld := by
  intro j h1 h2
  by_cases hj : j = i
  · subst hj
    exact ⟨fun q => absurd q he, fun _ => qU_s _ _ _⟩
  · obtain ⟨a, b⟩ := h j h1 (by omega)
    rw [qU_n hj]
    exact ⟨a, b⟩
theorem m_lo_go {e d lb lh le ld : Int → Int} {i : Int} (h : m_lo e d i lb lh le ld) (h0 : 0 ≤ i) (he : 0 ≤ e i) :
    m_lo e d (i + 1) (qU (qU lb i (-1)) i (m_cn e i.toNat)) (qU lh (m_cn e i.toNat) i) (qU le (m_cn e i.toNat) (e i)) (qU ld (m_cn e i.toNat) (d i)) := by
  intro j h1 h2
  by_cases hj : j = i
  · subst hj
    exact ⟨fun _ => ⟨qU_s _ _ _, qU_s _ _ _, qU_s _ _ _, qU_s _ _ _⟩, fun q => absurd he q⟩
  · obtain ⟨a, b⟩ := h j h1 (by omega)
    rw [qU_n hj, qU_n hj]
    refine ⟨fun q => ?_, b⟩
    obtain ⟨a1, a2, a3, a4⟩ := a q
    have hlt := m_cn_lt (e := e) (i := i) h1 (by omega) q
    rw [qU_n (by omega), qU_n (by omega), qU_n (by omega)]
    exact ⟨a1, a2, a3, a4⟩
