/-! signs: texts -/
theorem len_bs {bs : List Int32} (h : bs.length < 2147483648) : f_J0_length_8abf5 bs = nI bs.length := by
  unfold f_J0_length_8abf5
  have e : (Int32.ofNat bs.length) >>> ((0 : Int32) &&& 31) = Int32.ofNat bs.length := by
    have e0 : (0 : Int32) &&& 31 = 0 := by decide
    rw [e0]
    simp
  exact e
theorem S_char {bs : List Int32} {i : Nat} (h : bs.length < 2147483648) (hi : i < bs.length) : S_J0_charAt_5068e bs (nI i) := by
  have n1 : ¬ nI i < 0 := nI_pos (by omega)
  have n2 : nI i < Int32.ofNat bs.length := (nI_ltI (a := i) (b := bs.length) (by omega) h).mpr hi
  exact ⟨⟨⟨⟨fun z => n1 z, fun _ => ⟨fun _ => True.intro, fun z => z n2⟩⟩, True.intro⟩, vin hi h, True.intro⟩, True.intro⟩
theorem L_text {bs : List Int32} (hl : bs.length ≤ 21) (hb : ∀ j, j < bs.length → f_J0_charAt_5068e bs (nI j) = bs.getD j 0) : ∀ (n i m : Nat) (Ss : Nat → Int32), i ≤ bs.length → bs.length - i < n → m + (bs.length - i) ≤ 61 →
    SL_X4_writeText_2 n (nI i) Ss (nI m) bs ∧ ∃ (x : Int32) (Ss' : Nat → Int32), L_X4_writeText_2 n (nI i) Ss (nI m) bs = (x, Ss', nI (m + (bs.length - i))) ∧ (∀ q, q < m → Ss' q = Ss q) ∧ ∀ j, j < bs.length - i → Ss' (m + j) = bs.getD (i + j) 0 := by
  intro n
  induction n with
  | zero => intro i m Ss _ h; exact absurd h (by omega)
  | succ n ih =>
    intro i m Ss hi hn hm
    rw [SL_X4_writeText_2, L_X4_writeText_2, len_bs (by omega)]
    have i1 : (nI bs.length ≤ nI i) ↔ bs.length ≤ i := nI_leI (by omega) (by omega)
    by_cases hc : bs.length ≤ i
    · have y := i1.mpr hc
      rw [if_pos y, show bs.length - i = 0 by omega]
      exact ⟨⟨fun _ => True.intro, fun z => absurd y z⟩, _, Ss, rfl, fun _ _ => rfl, fun j hj => absurd hj (by omega)⟩
    · have y : ¬ nI bs.length ≤ nI i := fun z => hc (i1.mp z)
      obtain ⟨sw, ew⟩ := wrN (m := m) (by omega) (bs.getD i 0) Ss
      obtain ⟨s1, x, Ss', s2, s3, s4⟩ := ih (i + 1) (m + 1) (upd Ss m (bs.getD i 0)) (by omega) (by omega) (by omega)
      rw [if_neg y, hb i (by omega), ← nI_succ]
      simp only [ew]
      refine ⟨⟨fun z => absurd z y, fun _ => ⟨S_char (by omega) (by omega), sw, fun u eu => by rw [eu]; exact s1⟩⟩, x, Ss', by rw [s2]; congr 3; omega, fun q hq => ?_, fun j hj => ?_⟩
      · rw [s3 q (by omega), uI, if_neg (by omega)]
      · by_cases z : j = 0
        · subst z
          rw [Nat.add_zero, s3 m (by omega), uI, if_pos rfl, Nat.add_zero]
        · have e := s4 (j - 1) (by omega)
          rw [show m + 1 + (j - 1) = m + j by omega, show i + 1 + (j - 1) = i + j by omega] at e
          exact e
