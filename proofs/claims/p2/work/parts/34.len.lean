/-! signs: lengths of both -/
theorem b_len0 {v m : Nat} {Ss Te : Nat → Int32} (hv : v < 1073741824) (hm : m + 11 ≤ 61) (hs : SR m Ss Te) (Bz : Int32) (Bk : Nat → Int32) :
    S_X4_writeDigits (lN (v / 65536)) Ss (nI m) ∧ S_X6_sayNumber (lN (v / 65536)) (nI m) Te Bz Bk ∧ ∃ (c1 : Nat) (S1 T1 B1 : Nat → Int32), c1 ≤ 5 ∧ f_X4_writeDigits (lN (v / 65536)) Ss (nI m) = (S1, nI (m + c1)) ∧ f_X6_sayNumber (lN (v / 65536)) (nI m) Te Bz Bk = (nI (m + c1), T1, 0, B1) ∧
      S_X4_write (46 : Int32) S1 (nI (m + c1)) ∧ f_X4_write (46 : Int32) S1 (nI (m + c1)) = (upd S1 (m + c1) 46, nI (m + c1 + 1)) ∧ f_X6_say (46 : Int32) (nI (m + c1)) T1 = (nI (m + c1 + 1), upd T1 (m + c1) 46) ∧
      S_X4_writeFraction (lN (v % 65536)) (upd S1 (m + c1) 46) (nI (m + c1 + 1)) ∧ SL_X6_sayLength_63 10 ((10 : Int64) * lN (v % 65536) + (5 : Int64)) (10 : Int64) (1 : Int32) (nI (m + c1 + 1)) (upd T1 (m + c1) 46) ∧
      ∃ (c2 : Nat) (S2 T2 : Nat → Int32) (a' b' : Int64) (d' : Int32), c2 ≤ 5 ∧ f_X4_writeFraction (lN (v % 65536)) (upd S1 (m + c1) 46) (nI (m + c1 + 1)) = (S2, nI (m + c1 + 1 + c2)) ∧ L_X6_sayLength_63 10 ((10 : Int64) * lN (v % 65536) + (5 : Int64)) (10 : Int64) (1 : Int32) (nI (m + c1 + 1)) (upd T1 (m + c1) 46) = (a', b', d', nI (m + c1 + 1 + c2), T2) ∧ SR (m + c1 + 1 + c2) S2 T2 := by
  obtain ⟨s1, s2, c1, S1, T1, B1, h1, e1, e2, e3⟩ := b_dig (v := v / 65536) (m := m) (k := 5) (by omega) (by omega) (by omega) (by omega) hs Bz Bk
  obtain ⟨sw, ew⟩ := wrN (m := m + c1) (by omega) 46 S1
  have ey := sayN (m := m + c1) (by omega) 46 T1
  have x5 : (10 : Int64) * lN (v % 65536) + (5 : Int64) = lN (10 * (v % 65536) + 5) := by
    rw [show (10 : Int64) * lN (v % 65536) = lN (10 * (v % 65536)) from lN_mul 10 _]
    exact lN_add _ 5
  obtain ⟨k1, k2, c2, a, b, d, a', b', d', S2, T2, k3, k4, k5, k6⟩ := L_frac 10 0 (m + c1 + 1) (10 * (v % 65536) + 5) 10 _ _ 1 (Or.inl ⟨rfl, rfl⟩) (by omega) (by omega) (by omega) (SR_1 e3 46) (by rw [if_pos (Or.inl rfl)])
  have k1 : SL_X4_writeFraction_18 10 (lN (10 * (v % 65536) + 5)) (10 : Int64) (0 : Int32) (upd S1 (m + c1) 46) (nI (m + c1 + 1)) := k1
  have k2 : SL_X6_sayLength_63 10 (lN (10 * (v % 65536) + 5)) (10 : Int64) (1 : Int32) (nI (m + c1 + 1)) (upd T1 (m + c1) 46) := k2
  have k4 : L_X4_writeFraction_18 10 (lN (10 * (v % 65536) + 5)) (10 : Int64) (0 : Int32) (upd S1 (m + c1) 46) (nI (m + c1 + 1)) = (a, b, d, S2, nI (m + c1 + 1 + c2)) := k4
  have k5 : L_X6_sayLength_63 10 (lN (10 * (v % 65536) + 5)) (10 : Int64) (1 : Int32) (nI (m + c1 + 1)) (upd T1 (m + c1) 46) = (a', b', d', nI (m + c1 + 1 + c2), T2) := k5
  refine ⟨s1, s2, c1, S1, T1, B1, h1, e1, e2, sw, ew, ey, ?_, ?_, c2, S2, T2, a', b', d', k3, ?_, ?_, k6⟩
  · unfold S_X4_writeFraction
    rw [x5]
    exact ⟨k1, fun _ _ => True.intro⟩
  · rw [x5]; exact k2
  · unfold f_X4_writeFraction
    rw [x5]
    simp only [k4]
  · rw [x5]; exact k5
theorem b_len {a : Int64} (h1 : -1073741824 < a.toInt) (h2 : a.toInt < 1073741824) {m : Nat} (hm : m + 12 ≤ 61) {Ss Te : Nat → Int32} (hs : SR m Ss Te) (Bz : Int32) (Bk : Nat → Int32) :
    S_X4_writeLength a Ss (nI m) ∧ S_X6_sayLength a (nI m) Te Bz Bk ∧ ∃ (c : Nat) (Ss' Te' Bk' : Nat → Int32), c ≤ 12 ∧ f_X4_writeLength a Ss (nI m) = (Ss', nI (m + c)) ∧ f_X6_sayLength a (nI m) Te Bz Bk = (nI (m + c), Te', 0, Bk') ∧ SR (m + c) Ss' Te' := by
  have l0 : (0 : Int64).toInt = 0 := rfl
  by_cases h0 : (0 : Int64) ≤ a
  · obtain ⟨v, hv, e, rfl⟩ := posL (a := a) (by rw [i64le] at h0; omega) (by omega)
    have q1 : lN v / (65536 : Int64) = lN (v / 65536) := pk_lDiv (b := 65536) (by omega) (by omega) (by omega)
    have q2 : lN v - lN v / (65536 : Int64) * (65536 : Int64) = lN (v % 65536) := pk_lRem (b := 65536) (by omega) (by omega) (by omega)
    obtain ⟨s1, s2, c1, S1, T1, B1, hc1, e1, e2, sw, ew, ey, s3, s4, c2, S2, T2, a', b', d', hc2, e5, e6, e7⟩ := b_len0 (v := v) (m := m) (by omega) (by omega) hs Bz Bk
    have em : m + c1 + 1 + c2 = m + (c1 + 1 + c2) := by omega
    rw [em] at e5 e6 e7
    unfold S_X4_writeLength S_X6_sayLength f_X4_writeLength f_X6_sayLength
    rw [q2, q1, if_pos h0, if_pos h0]
    refine ⟨⟨fun _ => ⟨s1, fun u4 u4e => ?_⟩, fun z => absurd h0 z⟩, ⟨fun _ => ⟨s2, fun u4 u4e => ?_⟩, fun z => absurd h0 z⟩, c1 + 1 + c2, S2, T2, B1, by omega, ?_, ?_, e7⟩
    · rw [u4e, e1]; exact ⟨sw, fun u6 u6e => by rw [u6e, ew]; exact ⟨s3, fun _ _ => True.intro⟩⟩
    · rw [u4e, e2]; exact ⟨⟨vin (by omega) (by omega), True.intro⟩, fun u6 u6e => by rw [u6e, ey]; exact ⟨s4, fun _ _ => True.intro⟩⟩
    · simp only [e1, ew, e5]
    · simp only [e2, ey, e6]
  · have hn : a.toInt < 0 := by
      rw [i64le] at h0; omega
    obtain ⟨v, hv, e, en⟩ := negL hn (by omega)
    have q1 : lN v / (65536 : Int64) = lN (v / 65536) := pk_lDiv (b := 65536) (by omega) (by omega) (by omega)
    have q2 : lN v - lN v / (65536 : Int64) * (65536 : Int64) = lN (v % 65536) := pk_lRem (b := 65536) (by omega) (by omega) (by omega)
    obtain ⟨sx, ex⟩ := wrN (m := m) (by omega) 45 Ss
    have ez := sayN (m := m) (by omega) 45 Te
    obtain ⟨s1, s2, c1, S1, T1, B1, hc1, e1, e2, sw, ew, ey, s3, s4, c2, S2, T2, a', b', d', hc2, e5, e6, e7⟩ := b_len0 (v := v) (m := m + 1) (by omega) (by omega) (SR_1 hs 45) Bz Bk
    have em : m + 1 + c1 + 1 + c2 = m + (1 + c1 + 1 + c2) := by omega
    rw [em] at e5 e6 e7
    unfold S_X4_writeLength S_X6_sayLength f_X4_writeLength f_X6_sayLength
    rw [en, q2, q1, if_neg h0, if_neg h0]
    refine ⟨⟨fun z => absurd z h0, fun _ => ⟨sx, fun u0 u0e => ?_⟩⟩, ⟨fun z => absurd z h0, fun _ => ⟨⟨vin (by omega) (by omega), True.intro⟩, fun u0 u0e => ?_⟩⟩, 1 + c1 + 1 + c2, S2, T2, B1, by omega, ?_, ?_, e7⟩
    · rw [u0e, ex]
      refine ⟨s1, fun u4 u4e => ?_⟩
      rw [u4e, e1]; exact ⟨sw, fun u6 u6e => by rw [u6e, ew]; exact ⟨s3, fun _ _ => True.intro⟩⟩
    · rw [u0e, ez]
      refine ⟨s2, fun u4 u4e => ?_⟩
      rw [u4e, e2]; exact ⟨⟨vin (by omega) (by omega), True.intro⟩, fun u6 u6e => by rw [u6e, ey]; exact ⟨s4, fun _ _ => True.intro⟩⟩
    · simp only [ex, e1, ew, e5]
    · simp only [ez, e2, ey, e6]
