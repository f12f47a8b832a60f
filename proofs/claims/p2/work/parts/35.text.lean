/-! signs: texts -/
theorem len_bs {bs : List Int32} (h : bs.length < 2147483648) : f_J0_length_8abf5 bs = nI bs.length := by
  unfold f_J0_length_8abf5
  have e : (Int32.ofNat bs.length) >>> ((0 : Int32) &&& 31) = Int32.ofNat bs.length := by
    have e0 : (0 : Int32) &&& 31 = 0 := by decide
    rw [e0]
    simp
  exact e
