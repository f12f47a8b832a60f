/-! signs: numbers of both -/
def SR (m : Nat) (S T : Nat → Int32) : Prop := ∀ q, q < m → S q = T q
theorem SR_1 {m : Nat} {S T : Nat → Int32} (h : SR m S T) (a : Int32) : SR (m + 1) (upd S m a) (upd T m a) := by
  intro q hq
  rw [uI, uI]
  by_cases z : q = m
  · rw [if_pos z, if_pos z]
  · rw [if_neg z, if_neg z]; exact h q (by omega)
theorem cnt_le {v c k : Nat} (h : cnt v c) (hk : 1 ≤ k) (hv : v < 10 ^ k) : c ≤ k := by
  obtain ⟨a1, a2, a3⟩ := h
  rcases Nat.lt_or_ge k c with z | z
  · exfalso
    have := Nat.pow_le_pow_right (n := 10) (by omega) (show k ≤ c - 1 by omega)
    omega
  · exact z
theorem b_dig {v m k : Nat} {Ss Te : Nat → Int32} (hv : v < 2147483648) (hk : 1 ≤ k) (hvk : v < 10 ^ k) (hm : m + k ≤ 61) (hs : SR m Ss Te) (Bz : Int32) (Bk : Nat → Int32) :
    S_X4_writeDigits (lN v) Ss (nI m) ∧ S_X6_sayNumber (lN v) (nI m) Te Bz Bk ∧ ∃ (c : Nat) (Ss' Te' Bk' : Nat → Int32), c ≤ k ∧ f_X4_writeDigits (lN v) Ss (nI m) = (Ss', nI (m + c)) ∧ f_X6_sayNumber (lN v) (nI m) Te Bz Bk = (nI (m + c), Te', 0, Bk') ∧ SR (m + c) Ss' Te' := by
  obtain ⟨c, hc, h1, h2⟩ := wDig (m := m) hv Ss
  have hck := cnt_le h1 hk hvk
  obtain ⟨s1, Ss', e1, e2, e3⟩ := h2 (by omega)
  obtain ⟨s2, Te', Bk', e4, e5, e6⟩ := sDig (m := m) hv h1 (by omega) Te Bz Bk
  refine ⟨s1, s2, c, Ss', Te', Bk', hck, e1, e4, fun q hq => ?_⟩
  rcases Nat.lt_or_ge q m with z | z
  · rw [e2 q z, e5 q z]; exact hs q z
  · have e7 := e3 (q - m) (by omega)
    have e8 := e6 (q - m) (by omega)
    rw [show m + (q - m) = q by omega] at e7 e8
    rw [e7, e8]
theorem posL {a : Int64} (h : 0 ≤ a.toInt) (h2 : a.toInt < 2147483648) : ∃ v : Nat, v < 2147483648 ∧ (v : Int) = a.toInt ∧ a = lN v := by
  refine ⟨a.toInt.toNat, by omega, by omega, ?_⟩
  apply Int64.toInt_inj.mp
  rw [lN_toInt (by omega)]
  omega
theorem negL {a : Int64} (h : a.toInt < 0) (h2 : -2147483648 < a.toInt) : ∃ v : Nat, v < 2147483648 ∧ (v : Int) = -a.toInt ∧ -a = lN v := by
  refine ⟨(-a.toInt).toNat, by omega, by omega, ?_⟩
  apply Int64.toInt_inj.mp
  rw [lN_toInt (by omega), Int64.toInt_neg, Int.bmod_def]
  split <;> omega
theorem b_num {a : Int64} (h1 : -2147483648 < a.toInt) (h2 : a.toInt < 2147483648) {m : Nat} (hm : m + 11 ≤ 61) {Ss Te : Nat → Int32} (hs : SR m Ss Te) (Bz : Int32) (Bk : Nat → Int32) :
    S_X4_writeNumber a Ss (nI m) ∧ S_X6_sayNumber a (nI m) Te Bz Bk ∧ ∃ (c : Nat) (Ss' Te' Bk' : Nat → Int32), c ≤ 11 ∧ f_X4_writeNumber a Ss (nI m) = (Ss', nI (m + c)) ∧ f_X6_sayNumber a (nI m) Te Bz Bk = (nI (m + c), Te', 0, Bk') ∧ SR (m + c) Ss' Te' := by
  have l0 : (0 : Int64).toInt = 0 := rfl
  by_cases h0 : (0 : Int64) ≤ a
  · obtain ⟨v, hv, e, rfl⟩ := posL (a := a) (by rw [i64le] at h0; omega) h2
    obtain ⟨s1, s2, c, Ss', Te', Bk', hc, e1, e2, e3⟩ := b_dig (m := m) (k := 10) hv (by omega) (by omega) (by omega) hs Bz Bk
    refine ⟨⟨fun _ => ⟨s1, fun _ _ => True.intro⟩, fun z => absurd h0 z⟩, s2, c, Ss', Te', Bk', by omega, ?_, e2, e3⟩
    unfold f_X4_writeNumber
    rw [if_pos h0]
    simp only [e1]
  · have hn : a.toInt < 0 := by
      rw [i64le] at h0; omega
    obtain ⟨v, hv, e, en⟩ := negL hn h1
    obtain ⟨sw, ew⟩ := wrN (m := m) (by omega) 45 Ss
    obtain ⟨s1, s2, c, Ss', Te', Bk', hc, e1, e2, e3⟩ := b_dig (m := m + 1) (k := 10) hv (by omega) (by omega) (by omega) (SR_1 hs 45) Bz Bk
    have em : m + 1 + c = m + (c + 1) := by omega
    rw [em] at e1 e2 e3
    have y : (0 : Int64) ≤ lN v := (lN_le (a := 0) (by omega) (by omega)).mpr (by omega)
    unfold S_X4_writeNumber f_X4_writeNumber S_X6_sayNumber f_X6_sayNumber
    unfold S_X6_sayNumber at s2
    unfold f_X6_sayNumber at e2
    rw [if_pos y] at e2
    rw [if_neg h0, if_neg h0, en]
    simp only [ew, sayN (m := m) (by omega) 45 Te, e1]
    simp only at e2
    refine ⟨⟨fun z => absurd z h0, fun _ => ⟨sw, fun u eu => by rw [eu]; exact ⟨s1, fun _ _ => True.intro⟩⟩⟩, ⟨fun z => absurd z h0, fun _ => ⟨⟨vin (by omega) (by omega), True.intro⟩, fun u eu => by rw [eu]; exact s2.1 y⟩⟩, c + 1, Ss', Te', Bk', by omega, rfl, e2, e3⟩
