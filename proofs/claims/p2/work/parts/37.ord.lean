/-! signs: texts of both -/
theorem SR_text {bs : List Int32} {m : Nat} {S S' T : Nat → Int32} (hs : SR m S T) (h1 : ∀ q, q < m → S' q = S q) (h2 : ∀ j, j < bs.length → S' (m + j) = bs.getD j 0) {T' : Nat → Int32} (h3 : ∀ q, q < m → T' q = T q) (h4 : ∀ j, j < bs.length → T' (m + j) = bs.getD j 0) : SR (m + bs.length) S' T' := by
  intro q hq
  rcases Nat.lt_or_ge q m with z | z
  · rw [h1 q z, h3 q z]; exact hs q z
  · have e1 := h2 (q - m) (by omega)
    have e2 := h4 (q - m) (by omega)
    rw [show m + (q - m) = q by omega] at e1 e2
    rw [e1, e2]
/-- writeText of a literal -/
theorem w_text {bs : List Int32} (hl : bs.length ≤ 21) (hb : ∀ j, j < bs.length → f_J0_charAt_5068e bs (nI j) = bs.getD j 0) {m : Nat} (hm : m + bs.length ≤ 61) (Ss : Nat → Int32) :
    S_X4_writeText bs Ss (nI m) ∧ ∃ Ss', f_X4_writeText bs Ss (nI m) = (Ss', nI (m + bs.length)) ∧ (∀ q, q < m → Ss' q = Ss q) ∧ ∀ j, j < bs.length → Ss' (m + j) = bs.getD j 0 := by
  obtain ⟨s1, x, Ss', s2, s3, s4⟩ := L_text hl hb 22 0 m Ss (by omega) (by omega) (by omega)
  have s1 : SL_X4_writeText_2 22 (0 : Int32) Ss (nI m) bs := s1
  have s2 : L_X4_writeText_2 22 (0 : Int32) Ss (nI m) bs = (x, Ss', nI (m + (bs.length - 0))) := s2
  refine ⟨⟨s1, fun _ _ => True.intro⟩, Ss', ?_, s3, fun j hj => ?_⟩
  · unfold f_X4_writeText
    simp only [s2, Nat.sub_zero]
  · have e := s4 j (by omega)
    rw [Nat.zero_add] at e
    exact e
