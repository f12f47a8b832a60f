/-! signs: numbers -/
theorem wrN {m : Nat} (hm : m < 61) (a : Int32) (Ss : Nat → Int32) : S_X4_write a Ss (nI m) ∧ f_X4_write a Ss (nI m) = (upd Ss m a, nI (m + 1)) := by
  have n1 : ¬ nI m < 0 := nI_pos (by omega)
  have n2 : ¬ (61 : Int32) ≤ nI m := fun z => by have := (nI_leI (a := 61) (b := m) (by omega) (by omega)).mp z; omega
  have c0 : (nI m).toNatClampNeg = m := clN (by omega)
  unfold S_X4_write f_X4_write
  rw [if_neg n1, if_neg n2, c0, ← nI_succ]
  exact ⟨⟨fun _ => True.intro, fun _ => ⟨fun _ => True.intro, fun _ => ⟨vin hm (by omega), True.intro⟩⟩⟩, rfl⟩
theorem sayN {m : Nat} (hm : m < 120) (a : Int32) (Te : Nat → Int32) : f_X6_say a (nI m) Te = (nI (m + 1), upd Te m a) := by
  have c0 : (nI m).toNatClampNeg = m := clN (by omega)
  unfold f_X6_say
  rw [c0, ← nI_succ]
/-- so many digits -/
def cnt (v c : Nat) : Prop := 1 ≤ c ∧ v < 10 ^ c ∧ (c = 1 ∨ 10 ^ (c - 1) ≤ v)
theorem cnt_one {v c c' : Nat} (h : cnt v c) (h' : cnt v c') : c = c' := by
  obtain ⟨a1, a2, a3⟩ := h
  obtain ⟨b1, b2, b3⟩ := h'
  rcases Nat.lt_trichotomy c c' with z | z | z
  · exfalso
    have := Nat.pow_le_pow_right (n := 10) (by omega) (show c ≤ c' - 1 by omega)
    omega
  · exact z
  · exfalso
    have := Nat.pow_le_pow_right (n := 10) (by omega) (show c' ≤ c - 1 by omega)
    omega
theorem p10n {e : Nat} (h : e ≤ 9) : 10 ^ e ≤ 1000000000 := by
  have := Nat.pow_le_pow_right (n := 10) (by omega) h
  omega
theorem L_pow {v : Nat} (hv : v < 2147483648) : ∀ (n e : Nat), e ≤ 9 → 10 - e ≤ n → (e = 0 ∨ 10 ^ e ≤ v) → SL_X4_writeDigits_5 n (lN (10 ^ e)) (nI e) (lN v) ∧ ∃ (c : Nat) (x : Int32), c ≤ 10 ∧ cnt v c ∧ L_X4_writeDigits_5 n (lN (10 ^ e)) (nI e) (lN v) = (lN (10 ^ (c - 1)), x) := by
  intro n
  induction n with
  | zero => intro e h1 h2; exact absurd h2 (by omega)
  | succ n ih =>
    intro e h1 h2 h3
    rw [SL_X4_writeDigits_5, L_X4_writeDigits_5]
    have hp := p10n h1
    have i1 : ((9 : Int32) ≤ nI e) ↔ 9 ≤ e := nI_leI (a := 9) (by omega) (by omega)
    have d1 : lN v / (10 : Int64) = lN (v / 10) := pk_lDiv (b := 10) (by omega) (by omega) (by omega)
    have i2 : (lN (v / 10) < lN (10 ^ e)) ↔ v / 10 < 10 ^ e := lN_lt (by omega) (by omega)
    have ps : 10 ^ (e + 1) = 10 ^ e * 10 := Nat.pow_succ _ _
    have cn : v < 10 ^ (e + 1) → cnt v (e + 1) := fun h => ⟨by omega, h, by
      rw [Nat.add_sub_cancel]
      rcases h3 with h3 | h3
      · exact Or.inl (by omega)
      · exact Or.inr h3⟩
    by_cases c9 : 9 ≤ e
    · have y := i1.mpr c9
      have e9 : e = 9 := by omega
      rw [if_pos y]
      refine ⟨⟨fun _ => True.intro, fun z => absurd y z⟩, e + 1, nI e, by omega, cn (by rw [e9]; omega), rfl⟩
    · have y : ¬ (9 : Int32) ≤ nI e := fun z => c9 (i1.mp z)
      rw [if_neg y, d1]
      by_cases cs : v / 10 < 10 ^ e
      · rw [if_pos (i2.mpr cs)]
        refine ⟨⟨fun z => absurd z y, fun _ => ⟨fun _ => True.intro, fun z => absurd (i2.mpr cs) z⟩⟩, e + 1, nI e, by omega, cn (by omega), rfl⟩
      · have y2 : ¬ lN (v / 10) < lN (10 ^ e) := fun z => cs (i2.mp z)
        have m1 : lN (10 ^ e) * (10 : Int64) = lN (10 ^ (e + 1)) := by rw [show (10 : Int64) = lN 10 from rfl, lN_mul, ps]
        rw [if_neg y2, m1, ← nI_succ]
        obtain ⟨s1, s2⟩ := ih (e + 1) (by omega) (by omega) (Or.inr (by omega))
        exact ⟨⟨fun z => absurd z y, fun _ => ⟨fun z => absurd z y2, fun _ => s1⟩⟩, s2⟩
/-- the digit of a value at a power -/
def dg (v p : Nat) : Int32 := nI (48 + v / 10 ^ p % 10)
def PW (p : Nat) : Nat := if p = 0 then 0 else 10 ^ (p - 1)
theorem PW1 (p : Nat) : PW (p + 1) = 10 ^ p := by unfold PW; rw [if_neg (by omega), Nat.add_sub_cancel]
theorem PWd (p : Nat) : PW (p + 1) / 10 = PW p := by
  rw [PW1]
  unfold PW
  rcases Nat.eq_zero_or_pos p with z | z
  · rw [if_pos z, z]
  · rw [if_neg (by omega)]
    have e : 10 ^ p = 10 ^ (p - 1) * 10 := by rw [← Nat.pow_succ]; congr 1; omega
    rw [e, Nat.mul_div_cancel _ (by omega)]
theorem L_dig {v : Nat} (hv : v < 2147483648) : ∀ (n p i m : Nat) (Ss : Nat → Int32), p < n → p + i ≤ 10 → m + p ≤ 61 → SL_X4_writeDigits_37 n (lN (PW p)) (nI i) Ss (nI m) (lN v) ∧ ∃ (x : Int64) (y : Int32) (Ss' : Nat → Int32), L_X4_writeDigits_37 n (lN (PW p)) (nI i) Ss (nI m) (lN v) = (x, y, Ss', nI (m + p)) ∧ (∀ q, q < m → Ss' q = Ss q) ∧ ∀ j, j < p → Ss' (m + j) = dg v (p - 1 - j) := by
  intro n
  induction n with
  | zero => intro p i m Ss h; exact absurd h (by omega)
  | succ n ih =>
    intro p i m Ss hn hi hm
    rw [SL_X4_writeDigits_37, L_X4_writeDigits_37]
    have i1 : ((9 : Int32) < nI i) ↔ 9 < i := nI_ltI (a := 9) (by omega) (by omega)
    rcases Nat.eq_zero_or_pos p with hp | hp
    · subst hp
      have y2 : lN (PW 0) ≤ (0 : Int64) := by decide
      by_cases c9 : 9 < i
      · have y := i1.mpr c9
        rw [if_pos y]
        exact ⟨⟨fun _ => True.intro, fun z => absurd y z⟩, _, _, Ss, rfl, fun _ _ => rfl, fun j hj => absurd hj (by omega)⟩
      · have y : ¬ (9 : Int32) < nI i := fun z => c9 (i1.mp z)
        rw [if_neg y, if_pos y2]
        exact ⟨⟨fun z => absurd z y, fun _ => ⟨fun _ => True.intro, fun z => absurd y2 z⟩⟩, _, _, Ss, rfl, fun _ _ => rfl, fun j hj => absurd hj (by omega)⟩
    · obtain ⟨k, rfl⟩ : ∃ k, p = k + 1 := ⟨p - 1, by omega⟩
      have y : ¬ (9 : Int32) < nI i := fun z => by have := i1.mp z; omega
      have hk := p10n (e := k) (by omega)
      have hk0 : 0 < 10 ^ k := Nat.pow_pos (by omega)
      have y2 : ¬ lN (PW (k + 1)) ≤ (0 : Int64) := fun z => by
        rw [PW1] at z
        have := (lN_le (b := 0) (by omega) (by omega)).mp z
        omega
      have y3 : ¬ lN (PW (k + 1)) = 0 := fun z => by
        rw [PW1] at z
        have := (lN_eq (b := 0) (by omega) (by omega)).mp z
        omega
      have d1 : lN v / lN (PW (k + 1)) = lN (v / 10 ^ k) := by rw [PW1]; exact pk_lDiv (by omega) hk0 (by omega)
      have hvk : v / 10 ^ k ≤ v := Nat.div_le_self _ _
      have d2 : lN (v / 10 ^ k) - lN (v / 10 ^ k) / (10 : Int64) * (10 : Int64) = lN (v / 10 ^ k % 10) := pk_lRem (b := 10) (by omega) (by omega) (by omega)
      have d3 : (48 : Int32) + (lN (v / 10 ^ k % 10)).toInt32 = dg v k := by rw [lN_i]; exact nI_add 48 _
      have d4 : lN (PW (k + 1)) / (10 : Int64) = lN (PW k) := by
        have e := pk_lDiv (a := PW (k + 1)) (b := 10) (by rw [PW1]; omega) (by omega) (by omega)
        rw [PWd] at e
        exact e
      obtain ⟨sw, ew⟩ := wrN (m := m) (by omega) (dg v k) Ss
      obtain ⟨s1, x, yy, Ss', s2, s3, s4⟩ := ih k (i + 1) (m + 1) (upd Ss m (dg v k)) (by omega) (by omega) (by omega)
      rw [if_neg y, if_neg y2, d1, d2, d3, d4, ← nI_succ]
      simp only [ew]
      refine ⟨⟨fun z => absurd z y, fun _ => ⟨fun z => absurd z y2, fun _ => ⟨y3, sw, fun u eu => by rw [eu]; exact s1⟩⟩⟩, x, yy, Ss', by rw [s2]; congr 4; omega, fun q hq => ?_, fun j hj => ?_⟩
      · rw [s3 q (by omega), uI, if_neg (by omega)]
      · by_cases z : j = 0
        · subst z
          rw [Nat.add_zero, s3 m (by omega), uI, if_pos rfl]
          congr 1
        · have e := s4 (j - 1) (by omega)
          rw [show m + 1 + (j - 1) = m + j by omega] at e
          rw [e]
          congr 1
          omega
/-- writeDigits -/
theorem wDig {v m : Nat} (hv : v < 2147483648) (Ss : Nat → Int32) : ∃ c, c ≤ 10 ∧ cnt v c ∧ (m + c ≤ 61 → S_X4_writeDigits (lN v) Ss (nI m) ∧ ∃ Ss', f_X4_writeDigits (lN v) Ss (nI m) = (Ss', nI (m + c)) ∧ (∀ q, q < m → Ss' q = Ss q) ∧ ∀ j, j < c → Ss' (m + j) = dg v (c - 1 - j)) := by
  obtain ⟨s1, c, x, hc, h1, h2⟩ := L_pow hv 10 0 (by omega) (by omega) (Or.inl rfl)
  have s1 : SL_X4_writeDigits_5 10 (1 : Int64) (0 : Int32) (lN v) := s1
  have h2 : L_X4_writeDigits_5 10 (1 : Int64) (0 : Int32) (lN v) = (lN (10 ^ (c - 1)), x) := h2
  refine ⟨c, hc, h1, fun hm => ?_⟩
  obtain ⟨s3, y, z, Ss', s4, s5, s6⟩ := L_dig hv 12 c 0 m Ss (by omega) (by omega) hm
  have ep : PW c = 10 ^ (c - 1) := by unfold PW; rw [if_neg (by have := h1.1; omega)]
  rw [ep] at s3 s4
  have s3 : SL_X4_writeDigits_37 12 (lN (10 ^ (c - 1))) (0 : Int32) Ss (nI m) (lN v) := s3
  have s4 : L_X4_writeDigits_37 12 (lN (10 ^ (c - 1))) (0 : Int32) Ss (nI m) (lN v) = (y, z, Ss', nI (m + c)) := s4
  refine ⟨⟨s1, fun u1 e1 => ?_⟩, Ss', ?_, s5, s6⟩
  · rw [e1, h2]; exact ⟨s3, fun _ _ => True.intro⟩
  · unfold f_X4_writeDigits
    simp only [h2, s4]
