/-! the class's passes, in its runs -/
def m_xs (n : Int) (k r t de : Int → Int) (pl : Int) (v : Int → Int) (x len : Int) (ch : Int → Int) : Prop := 0 < x → ∃ Y : m_S × (Int → Int) × Int, m_xp n k r t de pl v = some Y ∧ len = m_ln (m_xp n k r t de pl v) ∧ ch = m_dl (m_xp n k r t de pl v) v
theorem m_leap_y {n : Int} {k r t de : Int → Int} {pl st : Int} {v ch : Int → Int} {x len sl : Int} (hr : m_rw n k r t de) (hw : m_tw n pl st v) (hs : m_xs n k r t de pl v x len ch) (hx : x = m_pq n k r t de pl v sl) (h0 : 0 < x) (hsl : sl ≤ 1000000000000000 - st) : (m_tw n pl (st + x * len) (m_lf v ch x 8) ∧ x * len ≤ sl) ∧ len = m_ln (m_xp n k r t de pl v) ∧ ch = m_dl (m_xp n k r t de pl v) v := by
  obtain ⟨Y, a, b, c⟩ := hs h0
  refine ⟨?_, b, c⟩
  obtain ⟨⟨w, lo, hi⟩, dr, ln⟩ := Y
  have h := m_leap_w hr hw a hsl (by rw [← hx]; exact h0)
  rw [← hx] at h
  rw [a] at b c
  rw [b, c]
  exact h
/-- the head of the loop of that number -/
theorem m_lo_at {n lc : Int} {k r t de lb lh le ld : Int → Int} (h : m_pg n lc k r t de lb lh le ld) {kk : Int} (hk : 0 ≤ kk ∧ kk < lc) : ∃ hd : Int, (0 ≤ hd ∧ hd < n ∧ 0 ≤ m_le n k t de hd ∧ m_cn (m_le n k t de) hd.toNat = kk) ∧ lh kk = hd ∧ le kk = m_le n k t de hd ∧ kk < 24 := by
  obtain ⟨h1, h2, h3, h4, h5, h6, h7, h8, h9, h10⟩ := h
  obtain ⟨j, a, b, c, d⟩ := m_cn_ex (m_le n k t de) kk n.toNat hk.1 (by omega)
  have hj := (h9 j a (by omega)).1 c
  rw [d] at hj
  have hc := m_cn_le (m_le n k t de) n.toNat
  exact ⟨j, ⟨a, by omega, c, d⟩, hj.2.1, hj.2.2.1, by omega⟩
theorem m_ch_of {k r de : Int → Int} {h e : Int} {v w lo hi dr : Int → Int} {fu ln x : Int} (hlo : ∀ c, 0 ≤ lo c ∧ lo c ≤ 1000000) (hhi : ∀ c, 0 ≤ hi c ∧ hi c ≤ 1000000) (hln : 0 ≤ ln ∧ ln ≤ 576000024) (hfin : (fu = 1 ∧ m_px k r de h e 24 h (v, v, v) (fun _ => 0) 0 = some ((w, lo, hi), dr, ln)) ∨ (fu = 0 ∧ m_px k r de h e 24 h (v, v, v) (fun _ => 0) 0 = none))
    (hx : (x = 0 ∧ (fu = 0 ∨ ln + 1 < 1 ∨ 1000000000000000 < ln + 1)) ∨ (x = 1 ∧ fu = 1 ∧ 1 ≤ ln + 1 ∧ ln + 1 ≤ 1000000000000000 ∧ ∃ c, 0 ≤ c ∧ c < 8 ∧ dr c = 1 ∧ ¬ (fun c => w c - v c) c = 0) ∨ (x = m_mn (m_po (fun c => w c - v c) (w, lo, hi)) 8 (1000000000000000 / (ln + 1)) ∧ fu = 1 ∧ 1 ≤ ln + 1 ∧ ln + 1 ≤ 1000000000000000 ∧ ∀ c, 0 ≤ c → c < 8 → dr c = 1 → (fun c => w c - v c) c = 0)) :
    (x = 0 → m_c0 k r de h e v) ∧ (¬ x = 0 → m_c1 k r de h e v w) := by
  constructor
  · intro h0
    have hf : fu = 0 := by
      rcases hx with ⟨_, q⟩ | ⟨q, _⟩ | ⟨q, _⟩
      · omega
      · omega
      · exfalso
        rcases m_mn_is (m_po (fun c => w c - v c) (w, lo, hi)) (1000000000000000 / (ln + 1)) 8 with q2 | ⟨c, _, _, q2⟩
        · have : 1 ≤ 1000000000000000 / (ln + 1) := (Int.le_ediv_iff_mul_le (by omega)).mpr (by omega)
          omega
        · have := m_po_rg (ch := fun c => w c - v c) (S := (w, lo, hi)) hlo hhi c
          omega
    rcases hfin with q | q
    · omega
    · intro S d l2 hS
      have hS2 : m_px k r de h e 24 h (v, v, v) (fun _ => 0) 0 = some (S, d, l2) := hS
      rw [q.2] at hS2
      cases hS2
  · intro h0
    have hf : fu = 1 := by
      rcases hx with ⟨q, _⟩ | ⟨_, q, _⟩ | ⟨_, q, _⟩
      · omega
      · exact q
      · exact q
    rcases hfin with q | q
    · exact ⟨lo, hi, dr, ln, q.2, by omega, by omega⟩
    · omega
