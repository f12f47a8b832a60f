section
/-! signs: numbers -/
theorem wrN {m : Nat} (hm : m < 61) (a : Int32) (Ss : Nat → Int32) : S_X4_write a Ss (nI m) ∧ f_X4_write a Ss (nI m) = (upd Ss m a, nI (m + 1)) := by
  have n1 : ¬ nI m < 0 := nI_pos (by omega)
  have n2 : ¬ (61 : Int32) ≤ nI m := fun z => by have := (nI_leI (a := 61) (b := m) (by omega) (by omega)).mp z; omega
  have c0 : (nI m).toNatClampNeg = m := clN (by omega)
  unfold S_X4_write f_X4_write
  rw [if_neg n1, if_neg n2, c0, ← nI_succ]
  exact ⟨⟨fun _ => True.intro, fun _ => ⟨fun _ => True.intro, fun _ => ⟨vin hm (by omega), True.intro⟩⟩⟩, rfl⟩
theorem sayN {m : Nat} (hm : m < 120) (a : Int32) (Te : Nat → Int32) : f_X6_say a (nI m) Te = (nI (m + 1), upd Te m a) := by
  have c0 : (nI m).toNatClampNeg = m := clN (by omega)
  unfold f_X6_say
  rw [c0, ← nI_succ]
/-- so many digits -/
def cnt (v c : Nat) : Prop := 1 ≤ c ∧ v < 10 ^ c ∧ (c = 1 ∨ 10 ^ (c - 1) ≤ v)
theorem cnt_one {v c c' : Nat} (h : cnt v c) (h' : cnt v c') : c = c' := by
  obtain ⟨a1, a2, a3⟩ := h
  obtain ⟨b1, b2, b3⟩ := h'
  rcases Nat.lt_trichotomy c c' with z | z | z
  · exfalso
    have := Nat.pow_le_pow_right (n := 10) (by omega) (show c ≤ c' - 1 by omega)
    omega
  · exact z
  · exfalso
    have := Nat.pow_le_pow_right (n := 10) (by omega) (show c' ≤ c - 1 by omega)
    omega
theorem p10n {e : Nat} (h : e ≤ 9) : 10 ^ e ≤ 1000000000 := by
  have := Nat.pow_le_pow_right (n := 10) (by omega) h
  omega
theorem L_pow {v : Nat} (hv : v < 2147483648) : ∀ (n e : Nat), e ≤ 9 → 10 - e ≤ n → (e = 0 ∨ 10 ^ e ≤ v) → SL_X4_writeDigits_5 n (lN (10 ^ e)) (nI e) (lN v) ∧ ∃ (c : Nat) (x : Int32), c ≤ 10 ∧ cnt v c ∧ L_X4_writeDigits_5 n (lN (10 ^ e)) (nI e) (lN v) = (lN (10 ^ (c - 1)), x) := by
  intro n
  induction n with
  | zero => intro e h1 h2; exact absurd h2 (by omega)
  | succ n ih =>
    intro e h1 h2 h3
    rw [SL_X4_writeDigits_5, L_X4_writeDigits_5]
    have hp := p10n h1
    have i1 : ((9 : Int32) ≤ nI e) ↔ 9 ≤ e := nI_leI (a := 9) (by omega) (by omega)
    have d1 : lN v / (10 : Int64) = lN (v / 10) := pk_lDiv (b := 10) (by omega) (by omega) (by omega)
    have i2 : (lN (v / 10) < lN (10 ^ e)) ↔ v / 10 < 10 ^ e := lN_lt (by omega) (by omega)
    have ps : 10 ^ (e + 1) = 10 ^ e * 10 := Nat.pow_succ _ _
    have cn : v < 10 ^ (e + 1) → cnt v (e + 1) := fun h => ⟨by omega, h, by
      rw [Nat.add_sub_cancel]
      rcases h3 with h3 | h3
      · exact Or.inl (by omega)
      · exact Or.inr h3⟩
    by_cases c9 : 9 ≤ e
    · have y := i1.mpr c9
      have e9 : e = 9 := by omega
      rw [if_pos y]
      refine ⟨⟨fun _ => True.intro, fun z => absurd y z⟩, e + 1, nI e, by omega, cn (by rw [e9]; omega), rfl⟩
    · have y : ¬ (9 : Int32) ≤ nI e := fun z => c9 (i1.mp z)
      rw [if_neg y, d1]
      by_cases cs : v / 10 < 10 ^ e
      · rw [if_pos (i2.mpr cs)]
        refine ⟨⟨fun z => absurd z y, fun _ => ⟨fun _ => True.intro, fun z => absurd (i2.mpr cs) z⟩⟩, e + 1, nI e, by omega, cn (by omega), rfl⟩
      · have y2 : ¬ lN (v / 10) < lN (10 ^ e) := fun z => cs (i2.mp z)
        have m1 : lN (10 ^ e) * (10 : Int64) = lN (10 ^ (e + 1)) := by rw [show (10 : Int64) = lN 10 from rfl, lN_mul, ps]
        rw [if_neg y2, m1, ← nI_succ]
        obtain ⟨s1, s2⟩ := ih (e + 1) (by omega) (by omega) (Or.inr (by omega))
        exact ⟨⟨fun z => absurd z y, fun _ => ⟨fun z => absurd z y2, fun _ => s1⟩⟩, s2⟩
/-- the digit of a value at a power -/
def dg (v p : Nat) : Int32 := nI (48 + v / 10 ^ p % 10)
def PW (p : Nat) : Nat := if p = 0 then 0 else 10 ^ (p - 1)
theorem PW1 (p : Nat) : PW (p + 1) = 10 ^ p := by unfold PW; rw [if_neg (by omega), Nat.add_sub_cancel]
theorem PWd (p : Nat) : PW (p + 1) / 10 = PW p := by
  rw [PW1]
  unfold PW
  rcases Nat.eq_zero_or_pos p with z | z
  · rw [if_pos z, z]
  · rw [if_neg (by omega)]
    have e : 10 ^ p = 10 ^ (p - 1) * 10 := by rw [← Nat.pow_succ]; congr 1; omega
    rw [e, Nat.mul_div_cancel _ (by omega)]
theorem L_dig {v : Nat} (hv : v < 2147483648) : ∀ (n p i m : Nat) (Ss : Nat → Int32), p < n → p + i ≤ 10 → m + p ≤ 61 → SL_X4_writeDigits_37 n (lN (PW p)) (nI i) Ss (nI m) (lN v) ∧ ∃ (x : Int64) (y : Int32) (Ss' : Nat → Int32), L_X4_writeDigits_37 n (lN (PW p)) (nI i) Ss (nI m) (lN v) = (x, y, Ss', nI (m + p)) ∧ (∀ q, q < m → Ss' q = Ss q) ∧ ∀ j, j < p → Ss' (m + j) = dg v (p - 1 - j) := by
  intro n
  induction n with
  | zero => intro p i m Ss h; exact absurd h (by omega)
  | succ n ih =>
    intro p i m Ss hn hi hm
    rw [SL_X4_writeDigits_37, L_X4_writeDigits_37]
    have i1 : ((9 : Int32) < nI i) ↔ 9 < i := nI_ltI (a := 9) (by omega) (by omega)
    rcases Nat.eq_zero_or_pos p with hp | hp
    · subst hp
      have y2 : lN (PW 0) ≤ (0 : Int64) := by decide
      by_cases c9 : 9 < i
      · have y := i1.mpr c9
        rw [if_pos y]
        exact ⟨⟨fun _ => True.intro, fun z => absurd y z⟩, _, _, Ss, rfl, fun _ _ => rfl, fun j hj => absurd hj (by omega)⟩
      · have y : ¬ (9 : Int32) < nI i := fun z => c9 (i1.mp z)
        rw [if_neg y, if_pos y2]
        exact ⟨⟨fun z => absurd z y, fun _ => ⟨fun _ => True.intro, fun z => absurd y2 z⟩⟩, _, _, Ss, rfl, fun _ _ => rfl, fun j hj => absurd hj (by omega)⟩
    · obtain ⟨k, rfl⟩ : ∃ k, p = k + 1 := ⟨p - 1, by omega⟩
      have y : ¬ (9 : Int32) < nI i := fun z => by have := i1.mp z; omega
      have hk := p10n (e := k) (by omega)
      have hk0 : 0 < 10 ^ k := Nat.pow_pos (by omega)
      have y2 : ¬ lN (PW (k + 1)) ≤ (0 : Int64) := fun z => by
        rw [PW1] at z
        have := (lN_le (b := 0) (by omega) (by omega)).mp z
        omega
      have y3 : ¬ lN (PW (k + 1)) = 0 := fun z => by
        rw [PW1] at z
        have := (lN_eq (b := 0) (by omega) (by omega)).mp z
        omega
      have d1 : lN v / lN (PW (k + 1)) = lN (v / 10 ^ k) := by rw [PW1]; exact pk_lDiv (by omega) hk0 (by omega)
      have hvk : v / 10 ^ k ≤ v := Nat.div_le_self _ _
      have d2 : lN (v / 10 ^ k) - lN (v / 10 ^ k) / (10 : Int64) * (10 : Int64) = lN (v / 10 ^ k % 10) := pk_lRem (b := 10) (by omega) (by omega) (by omega)
      have d3 : (48 : Int32) + (lN (v / 10 ^ k % 10)).toInt32 = dg v k := by rw [lN_i]; exact nI_add 48 _
      have d4 : lN (PW (k + 1)) / (10 : Int64) = lN (PW k) := by
        have e := pk_lDiv (a := PW (k + 1)) (b := 10) (by rw [PW1]; omega) (by omega) (by omega)
        rw [PWd] at e
        exact e
      obtain ⟨sw, ew⟩ := wrN (m := m) (by omega) (dg v k) Ss
      obtain ⟨s1, x, yy, Ss', s2, s3, s4⟩ := ih k (i + 1) (m + 1) (upd Ss m (dg v k)) (by omega) (by omega) (by omega)
      rw [if_neg y, if_neg y2, d1, d2, d3, d4, ← nI_succ]
      simp only [ew]
      refine ⟨⟨fun z => absurd z y, fun _ => ⟨fun z => absurd z y2, fun _ => ⟨y3, sw, fun u eu => by rw [eu]; exact s1⟩⟩⟩, x, yy, Ss', by rw [s2]; congr 4; omega, fun q hq => ?_, fun j hj => ?_⟩
      · rw [s3 q (by omega), uI, if_neg (by omega)]
      · by_cases z : j = 0
        · subst z
          rw [Nat.add_zero, s3 m (by omega), uI, if_pos rfl]
          congr 1
        · have e := s4 (j - 1) (by omega)
          rw [show m + 1 + (j - 1) = m + j by omega] at e
          rw [e]
          congr 1
          omega
/-- writeDigits -/
theorem wDig {v m : Nat} (hv : v < 2147483648) (Ss : Nat → Int32) : ∃ c, c ≤ 10 ∧ cnt v c ∧ (m + c ≤ 61 → S_X4_writeDigits (lN v) Ss (nI m) ∧ ∃ Ss', f_X4_writeDigits (lN v) Ss (nI m) = (Ss', nI (m + c)) ∧ (∀ q, q < m → Ss' q = Ss q) ∧ ∀ j, j < c → Ss' (m + j) = dg v (c - 1 - j)) := by
  obtain ⟨s1, c, x, hc, h1, h2⟩ := L_pow hv 10 0 (by omega) (by omega) (Or.inl rfl)
  have s1 : SL_X4_writeDigits_5 10 (1 : Int64) (0 : Int32) (lN v) := s1
  have h2 : L_X4_writeDigits_5 10 (1 : Int64) (0 : Int32) (lN v) = (lN (10 ^ (c - 1)), x) := h2
  refine ⟨c, hc, h1, fun hm => ?_⟩
  obtain ⟨s3, y, z, Ss', s4, s5, s6⟩ := L_dig hv 12 c 0 m Ss (by omega) (by omega) hm
  have ep : PW c = 10 ^ (c - 1) := by unfold PW; rw [if_neg (by have := h1.1; omega)]
  rw [ep] at s3 s4
  have s3 : SL_X4_writeDigits_37 12 (lN (10 ^ (c - 1))) (0 : Int32) Ss (nI m) (lN v) := s3
  have s4 : L_X4_writeDigits_37 12 (lN (10 ^ (c - 1))) (0 : Int32) Ss (nI m) (lN v) = (y, z, Ss', nI (m + c)) := s4
  refine ⟨⟨s1, fun u1 e1 => ?_⟩, Ss', ?_, s5, s6⟩
  · rw [e1, h2]; exact ⟨s3, fun _ _ => True.intro⟩
  · unfold f_X4_writeDigits
    simp only [h2, s4]

end
section
/-! signs: the reference's numbers -/
theorem L_back {v : Nat} (hv : v < 2147483648) : ∀ (n z : Nat) (Bk : Nat → Int32), z ≤ 10 → 11 - z ≤ n → (z ≤ 1 ∨ 10 ^ (z - 1) ≤ v) → (∀ q, q < z → Bk q = dg v q) →
    SL_X6_sayNumber_30 n (lN (v / 10 ^ z)) (nI z) Bk ∧ ∃ (c : Nat) (x : Int64) (Bk' : Nat → Int32), c ≤ 10 ∧ cnt v c ∧ L_X6_sayNumber_30 n (lN (v / 10 ^ z)) (nI z) Bk = (x, nI c, Bk') ∧ ∀ q, q < c → Bk' q = dg v q := by
  intro n
  induction n with
  | zero => intro z Bk h1 h2; exact absurd h2 (by omega)
  | succ n ih =>
    intro z Bk h1 h2 h3 h4
    rw [SL_X6_sayNumber_30, L_X6_sayNumber_30]
    have hle : v / 10 ^ z ≤ v := Nat.div_le_self _ _
    have hpz : 0 < 10 ^ z := Nat.pow_pos (by omega)
    have i1 : ((0 : Int64) < lN (v / 10 ^ z)) ↔ 0 < v / 10 ^ z := lN_lt (a := 0) (by omega) (by omega)
    have i2 : (nI z = 0) ↔ z = 0 := nI_eq (b := 0) (by omega) (by omega)
    have c0 : (nI z).toNatClampNeg = z := clN (by omega)
    have d1 : lN (v / 10 ^ z) / (10 : Int64) = lN (v / 10 ^ (z + 1)) := by
      have e := pk_lDiv (a := v / 10 ^ z) (b := 10) (by omega) (by omega) (by omega)
      rw [Nat.div_div_eq_div_mul, ← Nat.pow_succ] at e
      exact e
    have d2 : lN (v / 10 ^ z) - lN (v / 10 ^ z) / (10 : Int64) * (10 : Int64) = lN (v / 10 ^ z % 10) := pk_lRem (b := 10) (by omega) (by omega) (by omega)
    rw [d1] at d2
    have d3 : ((48 : Int64) + lN (v / 10 ^ z % 10)).toInt32 = dg v z := by
      rw [show (48 : Int64) = lN 48 from rfl, lN_add, lN_i]; rfl
    have st : (0 < v / 10 ^ z ∨ z = 0) → SL_X6_sayNumber_30 n (lN (v / 10 ^ (z + 1))) (nI (z + 1)) (upd Bk z (dg v z)) ∧ ∃ (c : Nat) (x : Int64) (Bk' : Nat → Int32), c ≤ 10 ∧ cnt v c ∧ L_X6_sayNumber_30 n (lN (v / 10 ^ (z + 1))) (nI (z + 1)) (upd Bk z (dg v z)) = (x, nI c, Bk') ∧ ∀ q, q < c → Bk' q = dg v q := by
      intro hs
      have hz9 : z ≤ 9 := by
        rcases hs with hs | hs
        · rcases Nat.lt_or_ge z 10 with y | y
          · omega
          · exfalso
            have e : z = 10 := by omega
            rw [e] at hs
            have : v / 10 ^ 10 = 0 := Nat.div_eq_of_lt (by omega)
            omega
        · omega
      refine ih (z + 1) _ (by omega) (by omega) ?_ (fun q hq => ?_)
      · rcases hs with hs | hs
        · right
          rw [Nat.add_sub_cancel]
          rcases Nat.lt_or_ge v (10 ^ z) with y | y
          · rw [Nat.div_eq_of_lt y] at hs
            omega
          · exact y
        · left; omega
      · rw [uI]
        by_cases y : q = z
        · rw [if_pos y, y]
        · rw [if_neg y]; exact h4 q (by omega)
    rw [d1, d2, d3, c0, ← nI_succ]
    by_cases hw : 0 < v / 10 ^ z
    · obtain ⟨s1, s2⟩ := st (Or.inl hw)
      have y := i1.mpr hw
      have hz9 : z < 20 := by omega
      rw [if_pos y]
      exact ⟨⟨fun _ => ⟨vin hz9 (by omega), s1⟩, fun z => absurd y z⟩, s2⟩
    · have y : ¬ (0 : Int64) < lN (v / 10 ^ z) := fun y => hw (i1.mp y)
      rw [if_neg y]
      by_cases hz : z = 0
      · obtain ⟨s1, s2⟩ := st (Or.inr hz)
        rw [if_pos (i2.mpr hz)]
        exact ⟨⟨fun z => absurd z y, fun _ => ⟨fun _ => ⟨vin (by omega) (by omega), s1⟩, fun q => absurd (i2.mpr hz) q⟩⟩, s2⟩
      · have y2 : ¬ nI z = 0 := fun q => hz (i2.mp q)
        rw [if_neg y2]
        have hlt : v < 10 ^ z := by
          rcases Nat.lt_or_ge v (10 ^ z) with q | q
          · exact q
          · exact absurd (Nat.div_pos q hpz) hw
        exact ⟨⟨fun z => absurd z y, fun _ => ⟨fun q => absurd q y2, fun _ => True.intro⟩⟩, z, _, Bk, h1, ⟨by omega, hlt, by omega⟩, rfl, h4⟩
theorem L_front {Bk : Nat → Int32} : ∀ (n p m : Nat) (Te : Nat → Int32), p < n → p ≤ 20 → m + p ≤ 120 → SL_X6_sayNumber_81 n (nI m) Te (nI p) Bk ∧ ∃ Te', L_X6_sayNumber_81 n (nI m) Te (nI p) Bk = (nI (m + p), Te', 0) ∧ (∀ q, q < m → Te' q = Te q) ∧ ∀ j, j < p → Te' (m + j) = Bk (p - 1 - j) := by
  intro n
  induction n with
  | zero => intro p m Te h; exact absurd h (by omega)
  | succ n ih =>
    intro p m Te hn hp20 hm
    rw [SL_X6_sayNumber_81, L_X6_sayNumber_81]
    rcases Nat.eq_zero_or_pos p with hp | hp
    · subst hp
      have y : nI 0 ≤ 0 := by decide
      rw [if_pos y]
      exact ⟨⟨fun _ => True.intro, fun z => absurd y z⟩, Te, rfl, fun _ _ => rfl, fun j hj => absurd hj (by omega)⟩
    · obtain ⟨k, rfl⟩ : ∃ k, p = k + 1 := ⟨p - 1, by omega⟩
      have y : ¬ nI (k + 1) ≤ 0 := fun z => by have := (nI_leI (b := 0) (by omega) (by omega)).mp z; omega
      have c0 : (nI k).toNatClampNeg = k := clN (by omega)
      rw [if_neg y, dn1 k (by omega), c0]
      obtain ⟨s1, Te', s2, s3, s4⟩ := ih k (m + 1) (upd Te m (Bk k)) (by omega) (by omega) (by omega)
      simp only [sayN (m := m) (by omega) (Bk k) Te]
      refine ⟨⟨fun z => absurd z y, fun _ => ⟨vin (by omega) (by omega), ⟨vin (by omega) (by omega), True.intro⟩, fun u eu => by rw [eu]; exact s1⟩⟩, Te', by rw [s2]; congr 2; omega, fun q hq => ?_, fun j hj => ?_⟩
      · rw [s3 q (by omega), uI, if_neg (by omega)]
      · by_cases z : j = 0
        · subst z
          rw [Nat.add_zero, s3 m (by omega), uI, if_pos rfl]
          congr 1
        · have e := s4 (j - 1) (by omega)
          rw [show m + 1 + (j - 1) = m + j by omega] at e
          rw [e]
          congr 1
          omega
/-- sayNumber of what isn't negative -/
theorem sDig {v m c : Nat} (hv : v < 2147483648) (hc : cnt v c) (hm : m + c ≤ 120) (Te : Nat → Int32) (Bz : Int32) (Bk : Nat → Int32) : S_X6_sayNumber (lN v) (nI m) Te Bz Bk ∧ ∃ Te' Bk', f_X6_sayNumber (lN v) (nI m) Te Bz Bk = (nI (m + c), Te', 0, Bk') ∧ (∀ q, q < m → Te' q = Te q) ∧ ∀ j, j < c → Te' (m + j) = dg v (c - 1 - j) := by
  have y : (0 : Int64) ≤ lN v := (lN_le (a := 0) (by omega) (by omega)).mpr (by omega)
  obtain ⟨s1, c', x, Bk', hc10, h1, h2, h3⟩ := L_back hv 21 0 Bk (by omega) (by omega) (Or.inl (by omega)) (fun q hq => absurd hq (by omega))
  have e := cnt_one h1 hc
  subst e
  rw [Nat.pow_zero, Nat.div_one] at s1 h2
  have s1 : SL_X6_sayNumber_30 21 (lN v) (0 : Int32) Bk := s1
  have h2 : L_X6_sayNumber_30 21 (lN v) (0 : Int32) Bk = (x, nI c', Bk') := h2
  obtain ⟨s3, Te', s4, s5, s6⟩ := L_front (Bk := Bk') 21 c' m Te (by omega) (by omega) hm
  unfold S_X6_sayNumber f_X6_sayNumber
  rw [if_pos y]
  simp only [h2, s4]
  refine ⟨⟨fun _ => ⟨s1, fun u eu => ?_⟩, fun z => absurd y z⟩, Te', Bk', rfl, s5, fun j hj => ?_⟩
  · rw [eu]; exact ⟨s3, fun _ _ => True.intro⟩
  · rw [s6 j hj, h3 _ (by omega)]

end
section
/-! signs: numbers of both -/
def SR (m : Nat) (S T : Nat → Int32) : Prop := ∀ q, q < m → S q = T q
theorem SR_1 {m : Nat} {S T : Nat → Int32} (h : SR m S T) (a : Int32) : SR (m + 1) (upd S m a) (upd T m a) := by
  intro q hq
  rw [uI, uI]
  by_cases z : q = m
  · rw [if_pos z, if_pos z]
  · rw [if_neg z, if_neg z]; exact h q (by omega)
theorem cnt_le {v c k : Nat} (h : cnt v c) (hk : 1 ≤ k) (hv : v < 10 ^ k) : c ≤ k := by
  obtain ⟨a1, a2, a3⟩ := h
  rcases Nat.lt_or_ge k c with z | z
  · exfalso
    have := Nat.pow_le_pow_right (n := 10) (by omega) (show k ≤ c - 1 by omega)
    omega
  · exact z
theorem b_dig {v m k : Nat} {Ss Te : Nat → Int32} (hv : v < 2147483648) (hk : 1 ≤ k) (hvk : v < 10 ^ k) (hm : m + k ≤ 61) (hs : SR m Ss Te) (Bz : Int32) (Bk : Nat → Int32) :
    S_X4_writeDigits (lN v) Ss (nI m) ∧ S_X6_sayNumber (lN v) (nI m) Te Bz Bk ∧ ∃ (c : Nat) (Ss' Te' Bk' : Nat → Int32), c ≤ k ∧ f_X4_writeDigits (lN v) Ss (nI m) = (Ss', nI (m + c)) ∧ f_X6_sayNumber (lN v) (nI m) Te Bz Bk = (nI (m + c), Te', 0, Bk') ∧ SR (m + c) Ss' Te' := by
  obtain ⟨c, hc, h1, h2⟩ := wDig (m := m) hv Ss
  have hck := cnt_le h1 hk hvk
  obtain ⟨s1, Ss', e1, e2, e3⟩ := h2 (by omega)
  obtain ⟨s2, Te', Bk', e4, e5, e6⟩ := sDig (m := m) hv h1 (by omega) Te Bz Bk
  refine ⟨s1, s2, c, Ss', Te', Bk', hck, e1, e4, fun q hq => ?_⟩
  rcases Nat.lt_or_ge q m with z | z
  · rw [e2 q z, e5 q z]; exact hs q z
  · have e7 := e3 (q - m) (by omega)
    have e8 := e6 (q - m) (by omega)
    rw [show m + (q - m) = q by omega] at e7 e8
    rw [e7, e8]
theorem posL {a : Int64} (h : 0 ≤ a.toInt) (h2 : a.toInt < 2147483648) : ∃ v : Nat, v < 2147483648 ∧ (v : Int) = a.toInt ∧ a = lN v := by
  refine ⟨a.toInt.toNat, by omega, by omega, ?_⟩
  apply Int64.toInt_inj.mp
  rw [lN_toInt (by omega)]
  omega
theorem negL {a : Int64} (h : a.toInt < 0) (h2 : -2147483648 < a.toInt) : ∃ v : Nat, v < 2147483648 ∧ (v : Int) = -a.toInt ∧ -a = lN v := by
  refine ⟨(-a.toInt).toNat, by omega, by omega, ?_⟩
  apply Int64.toInt_inj.mp
  rw [lN_toInt (by omega), Int64.toInt_neg, Int.bmod_def]
  split <;> omega
theorem b_num {a : Int64} (h1 : -2147483648 < a.toInt) (h2 : a.toInt < 2147483648) {m : Nat} (hm : m + 11 ≤ 61) {Ss Te : Nat → Int32} (hs : SR m Ss Te) (Bz : Int32) (Bk : Nat → Int32) :
    S_X4_writeNumber a Ss (nI m) ∧ S_X6_sayNumber a (nI m) Te Bz Bk ∧ ∃ (c : Nat) (Ss' Te' Bk' : Nat → Int32), c ≤ 11 ∧ f_X4_writeNumber a Ss (nI m) = (Ss', nI (m + c)) ∧ f_X6_sayNumber a (nI m) Te Bz Bk = (nI (m + c), Te', 0, Bk') ∧ SR (m + c) Ss' Te' := by
  have l0 : (0 : Int64).toInt = 0 := rfl
  by_cases h0 : (0 : Int64) ≤ a
  · obtain ⟨v, hv, e, rfl⟩ := posL (a := a) (by rw [i64le] at h0; omega) h2
    obtain ⟨s1, s2, c, Ss', Te', Bk', hc, e1, e2, e3⟩ := b_dig (m := m) (k := 10) hv (by omega) (by omega) (by omega) hs Bz Bk
    refine ⟨⟨fun _ => ⟨s1, fun _ _ => True.intro⟩, fun z => absurd h0 z⟩, s2, c, Ss', Te', Bk', by omega, ?_, e2, e3⟩
    unfold f_X4_writeNumber
    rw [if_pos h0]
    simp only [e1]
  · have hn : a.toInt < 0 := by
      rw [i64le] at h0; omega
    obtain ⟨v, hv, e, en⟩ := negL hn h1
    obtain ⟨sw, ew⟩ := wrN (m := m) (by omega) 45 Ss
    obtain ⟨s1, s2, c, Ss', Te', Bk', hc, e1, e2, e3⟩ := b_dig (m := m + 1) (k := 10) hv (by omega) (by omega) (by omega) (SR_1 hs 45) Bz Bk
    have em : m + 1 + c = m + (c + 1) := by omega
    rw [em] at e1 e2 e3
    have y : (0 : Int64) ≤ lN v := (lN_le (a := 0) (by omega) (by omega)).mpr (by omega)
    unfold S_X4_writeNumber f_X4_writeNumber S_X6_sayNumber f_X6_sayNumber
    unfold S_X6_sayNumber at s2
    unfold f_X6_sayNumber at e2
    rw [if_pos y] at e2
    rw [if_neg h0, if_neg h0, en]
    simp only [ew, sayN (m := m) (by omega) 45 Te, e1]
    simp only at e2
    refine ⟨⟨fun z => absurd z h0, fun _ => ⟨sw, fun u eu => by rw [eu]; exact ⟨s1, fun _ _ => True.intro⟩⟩⟩, ⟨fun z => absurd z h0, fun _ => ⟨⟨vin (by omega) (by omega), True.intro⟩, fun u eu => by rw [eu]; exact s2.1 y⟩⟩, c + 1, Ss', Te', Bk', by omega, rfl, e2, e3⟩

end
section
/-! signs: what stands behind the point -/
def IP (i P : Nat) : Prop := (i = 0 ∧ P = 10) ∨ (i = 1 ∧ P = 100) ∨ (i = 2 ∧ P = 1000) ∨ (i = 3 ∧ P = 10000) ∨ (i = 4 ∧ P = 100000) ∨ (i = 5 ∧ P = 1000000)
theorem L_frac : ∀ (n i m X P : Nat) (Ss Te : Nat → Int32) (x9 : Int32), IP i P → 6 - i ≤ n → X < 655360 → m + (5 - i) ≤ 61 → SR m Ss Te → x9 = (if i = 0 ∨ P < X then 1 else 0) →
    SL_X4_writeFraction_18 n (lN X) (lN P) (nI i) Ss (nI m) ∧ SL_X6_sayLength_63 n (lN X) (lN P) x9 (nI m) Te ∧ ∃ (c : Nat) (a b : Int64) (d : Int32) (a' b' : Int64) (d' : Int32) (Ss' Te' : Nat → Int32), c ≤ 5 - i ∧ L_X4_writeFraction_18 n (lN X) (lN P) (nI i) Ss (nI m) = (a, b, d, Ss', nI (m + c)) ∧ L_X6_sayLength_63 n (lN X) (lN P) x9 (nI m) Te = (a', b', d', nI (m + c), Te') ∧ SR (m + c) Ss' Te' := by
  intro n
  induction n with
  | zero => intro i m X P Ss Te x9 hP h; unfold IP at hP; exact absurd h (by omega)
  | succ n ih =>
    intro i m X P Ss Te x9 hP hn hX hm hs h9
    have hPP := hP
    unfold IP at hPP
    have n9 : ¬ (9 : Int32) ≤ nI i := fun z => by have := (nI_leI (a := 9) (by omega) (by omega)).mp z; omega
    have i0 : (nI i = 0) ↔ i = 0 := nI_eq (b := 0) (by omega) (by omega)
    have iP : (lN X ≤ lN P) ↔ X ≤ P := lN_le (by omega) (by omega)
    rw [SL_X4_writeFraction_18, L_X4_writeFraction_18, SL_X6_sayLength_63, L_X6_sayLength_63]
    by_cases hgo : i = 0 ∨ P < X
    · rw [if_pos hgo] at h9
      subst h9
      have xP : ¬ i = 0 → ¬ lN X ≤ lN P := fun z y => by have := iP.mp y; omega
      have q6 : lN P * (10 : Int64) = lN (P * 10) := lN_mul P 10
      have q7 : (10 : Int64) * lN P = lN (P * 10) := by rw [show (10 : Int64) = lN 10 from rfl, lN_mul, Nat.mul_comm]
      have key : ∀ Y, Y < 655360 → _ := fun Y hY => ih (i + 1) (m + 1) (10 * (Y % 65536)) (P * 10) (upd Ss m (nI (48 + Y / 65536))) (upd Te m (nI (48 + Y / 65536))) (if 10 * (Y % 65536) ≤ P * 10 then 0 else 1) (by unfold IP; omega) (by omega) (by omega) (by omega) (SR_1 hs _) (by
        by_cases hA : 10 * (Y % 65536) ≤ P * 10
        · rw [if_pos hA, if_neg (by omega)]
        · rw [if_neg hA, if_pos (by omega)])
      by_cases hp : lN P ≤ (65536 : Int64)
      · have hp1 := (lN_le (b := 65536) (by omega) (by omega)).mp hp
        by_cases hA : 10 * (X % 65536) ≤ P * 10
        · have q1 : lN X / (65536 : Int64) = lN (X / 65536) := pk_lDiv (b := 65536) (by omega) (by omega) (by omega)
          have q2 : lN X - lN X / (65536 : Int64) * (65536 : Int64) = lN (X % 65536) := pk_lRem (b := 65536) (by omega) (by omega) (by omega)
          rw [q1] at q2
          have q3 : (10 : Int64) * lN (X % 65536) = lN (10 * (X % 65536)) := lN_mul 10 _
          have q4 : (48 : Int32) + (lN (X / 65536)).toInt32 = nI (48 + X / 65536) := by rw [lN_i]; exact nI_add 48 _
          have q5 : ((48 : Int64) + lN (X / 65536)).toInt32 = nI (48 + X / 65536) := by rw [show (48 : Int64) = lN 48 from rfl, lN_add, lN_i]
          have hA' : lN (10 * (X % 65536)) ≤ lN (P * 10) := (lN_le (by omega) (by omega)).mpr hA
          obtain ⟨k1, k2, c, a, b, d, a', b', d', Ss', Te', k3, k4, k5, k6⟩ := key X (by omega)
          rw [if_pos hA] at k2 k5
          obtain ⟨sw, ew⟩ := wrN (m := m) (by omega) (nI (48 + X / 65536)) Ss
          have ey := sayN (m := m) (by omega) (nI (48 + X / 65536)) Te
          have em : m + 1 + c = m + (c + 1) := by omega
          rw [em] at k4 k5 k6
          rw [if_neg n9, if_neg ne10, if_pos hp, if_pos hp]
          simp only [q1, q2, q3, q4, q5, q6, q7, ew, ey, if_pos hA', ← nI_succ]
          refine ⟨⟨fun z => absurd z n9, fun _ => ⟨fun _ => ⟨fun _ => ⟨sw, fun u eu => by rw [eu]; exact k1⟩, fun z => absurd hp z⟩, fun _ => ⟨fun _ => True.intro, fun _ => ⟨fun _ => ⟨sw, fun u eu => by rw [eu]; exact k1⟩, fun z => absurd hp z⟩⟩⟩⟩, ⟨fun z => absurd z ne10, fun _ => ⟨fun _ => ⟨⟨vin (by omega) (by omega), True.intro⟩, fun u eu => by rw [eu]; exact ⟨fun _ => k2, fun z => absurd hA' z⟩⟩, fun z => absurd hp z⟩⟩, c + 1, a, b, d, a', b', d', Ss', Te', by omega, ?_, k5, k6⟩
          by_cases z0 : i = 0
          · rw [if_pos (i0.mpr z0)]; exact k4
          · rw [if_neg (fun z => z0 (i0.mp z)), if_neg (xP z0)]; exact k4
        · have q1 : lN X / (65536 : Int64) = lN (X / 65536) := pk_lDiv (b := 65536) (by omega) (by omega) (by omega)
          have q2 : lN X - lN X / (65536 : Int64) * (65536 : Int64) = lN (X % 65536) := pk_lRem (b := 65536) (by omega) (by omega) (by omega)
          rw [q1] at q2
          have q3 : (10 : Int64) * lN (X % 65536) = lN (10 * (X % 65536)) := lN_mul 10 _
          have q4 : (48 : Int32) + (lN (X / 65536)).toInt32 = nI (48 + X / 65536) := by rw [lN_i]; exact nI_add 48 _
          have q5 : ((48 : Int64) + lN (X / 65536)).toInt32 = nI (48 + X / 65536) := by rw [show (48 : Int64) = lN 48 from rfl, lN_add, lN_i]
          have hA' : ¬ lN (10 * (X % 65536)) ≤ lN (P * 10) := fun z => hA ((lN_le (by omega) (by omega)).mp z)
          obtain ⟨k1, k2, c, a, b, d, a', b', d', Ss', Te', k3, k4, k5, k6⟩ := key X (by omega)
          rw [if_neg hA] at k2 k5
          obtain ⟨sw, ew⟩ := wrN (m := m) (by omega) (nI (48 + X / 65536)) Ss
          have ey := sayN (m := m) (by omega) (nI (48 + X / 65536)) Te
          have em : m + 1 + c = m + (c + 1) := by omega
          rw [em] at k4 k5 k6
          rw [if_neg n9, if_neg ne10, if_pos hp, if_pos hp]
          simp only [q1, q2, q3, q4, q5, q6, q7, ew, ey, if_neg hA', ← nI_succ]
          refine ⟨⟨fun z => absurd z n9, fun _ => ⟨fun _ => ⟨fun _ => ⟨sw, fun u eu => by rw [eu]; exact k1⟩, fun z => absurd hp z⟩, fun _ => ⟨fun _ => True.intro, fun _ => ⟨fun _ => ⟨sw, fun u eu => by rw [eu]; exact k1⟩, fun z => absurd hp z⟩⟩⟩⟩, ⟨fun z => absurd z ne10, fun _ => ⟨fun _ => ⟨⟨vin (by omega) (by omega), True.intro⟩, fun u eu => by rw [eu]; exact ⟨fun z => absurd z hA', fun _ => k2⟩⟩, fun z => absurd hp z⟩⟩, c + 1, a, b, d, a', b', d', Ss', Te', by omega, ?_, k5, k6⟩
          by_cases z0 : i = 0
          · rw [if_pos (i0.mpr z0)]; exact k4
          · rw [if_neg (fun z => z0 (i0.mp z)), if_neg (xP z0)]; exact k4
      · have hp1 : 65536 < P := by
          rcases Nat.lt_or_ge 65536 P with z | z
          · exact z
          · exact absurd ((lN_le (b := 65536) (by omega) (by omega)).mpr z) hp
        by_cases hA : 10 * ((X - 17232) % 65536) ≤ P * 10
        · have q0 : lN X - (17232 : Int64) = lN (X - 17232) := lN_sub (b := 17232) (by omega)
          have q1 : lN (X - 17232) / (65536 : Int64) = lN ((X - 17232) / 65536) := pk_lDiv (b := 65536) (by omega) (by omega) (by omega)
          have q2 : lN (X - 17232) - lN (X - 17232) / (65536 : Int64) * (65536 : Int64) = lN ((X - 17232) % 65536) := pk_lRem (b := 65536) (by omega) (by omega) (by omega)
          rw [q1] at q2
          have q3 : (10 : Int64) * lN ((X - 17232) % 65536) = lN (10 * ((X - 17232) % 65536)) := lN_mul 10 _
          have q4 : (48 : Int32) + (lN ((X - 17232) / 65536)).toInt32 = nI (48 + (X - 17232) / 65536) := by rw [lN_i]; exact nI_add 48 _
          have q5 : ((48 : Int64) + lN ((X - 17232) / 65536)).toInt32 = nI (48 + (X - 17232) / 65536) := by rw [show (48 : Int64) = lN 48 from rfl, lN_add, lN_i]
          have hA' : lN (10 * ((X - 17232) % 65536)) ≤ lN (P * 10) := (lN_le (by omega) (by omega)).mpr hA
          obtain ⟨k1, k2, c, a, b, d, a', b', d', Ss', Te', k3, k4, k5, k6⟩ := key (X - 17232) (by omega)
          rw [if_pos hA] at k2 k5
          obtain ⟨sw, ew⟩ := wrN (m := m) (by omega) (nI (48 + (X - 17232) / 65536)) Ss
          have ey := sayN (m := m) (by omega) (nI (48 + (X - 17232) / 65536)) Te
          have em : m + 1 + c = m + (c + 1) := by omega
          rw [em] at k4 k5 k6
          rw [if_neg n9, if_neg ne10, if_neg hp, if_neg hp]
          simp only [q0, q1, q2, q3, q4, q5, q6, q7, ew, ey, if_pos hA', ← nI_succ]
          refine ⟨⟨fun z => absurd z n9, fun _ => ⟨fun _ => ⟨fun z => absurd z hp, fun _ => ⟨sw, fun u eu => by rw [eu]; exact k1⟩⟩, fun _ => ⟨fun _ => True.intro, fun _ => ⟨fun z => absurd z hp, fun _ => ⟨sw, fun u eu => by rw [eu]; exact k1⟩⟩⟩⟩⟩, ⟨fun z => absurd z ne10, fun _ => ⟨fun z => absurd z hp, fun _ => ⟨⟨vin (by omega) (by omega), True.intro⟩, fun u eu => by rw [eu]; exact ⟨fun _ => k2, fun z => absurd hA' z⟩⟩⟩⟩, c + 1, a, b, d, a', b', d', Ss', Te', by omega, ?_, k5, k6⟩
          by_cases z0 : i = 0
          · rw [if_pos (i0.mpr z0)]; exact k4
          · rw [if_neg (fun z => z0 (i0.mp z)), if_neg (xP z0)]; exact k4
        · have q0 : lN X - (17232 : Int64) = lN (X - 17232) := lN_sub (b := 17232) (by omega)
          have q1 : lN (X - 17232) / (65536 : Int64) = lN ((X - 17232) / 65536) := pk_lDiv (b := 65536) (by omega) (by omega) (by omega)
          have q2 : lN (X - 17232) - lN (X - 17232) / (65536 : Int64) * (65536 : Int64) = lN ((X - 17232) % 65536) := pk_lRem (b := 65536) (by omega) (by omega) (by omega)
          rw [q1] at q2
          have q3 : (10 : Int64) * lN ((X - 17232) % 65536) = lN (10 * ((X - 17232) % 65536)) := lN_mul 10 _
          have q4 : (48 : Int32) + (lN ((X - 17232) / 65536)).toInt32 = nI (48 + (X - 17232) / 65536) := by rw [lN_i]; exact nI_add 48 _
          have q5 : ((48 : Int64) + lN ((X - 17232) / 65536)).toInt32 = nI (48 + (X - 17232) / 65536) := by rw [show (48 : Int64) = lN 48 from rfl, lN_add, lN_i]
          have hA' : ¬ lN (10 * ((X - 17232) % 65536)) ≤ lN (P * 10) := fun z => hA ((lN_le (by omega) (by omega)).mp z)
          obtain ⟨k1, k2, c, a, b, d, a', b', d', Ss', Te', k3, k4, k5, k6⟩ := key (X - 17232) (by omega)
          rw [if_neg hA] at k2 k5
          obtain ⟨sw, ew⟩ := wrN (m := m) (by omega) (nI (48 + (X - 17232) / 65536)) Ss
          have ey := sayN (m := m) (by omega) (nI (48 + (X - 17232) / 65536)) Te
          have em : m + 1 + c = m + (c + 1) := by omega
          rw [em] at k4 k5 k6
          rw [if_neg n9, if_neg ne10, if_neg hp, if_neg hp]
          simp only [q0, q1, q2, q3, q4, q5, q6, q7, ew, ey, if_neg hA', ← nI_succ]
          refine ⟨⟨fun z => absurd z n9, fun _ => ⟨fun _ => ⟨fun z => absurd z hp, fun _ => ⟨sw, fun u eu => by rw [eu]; exact k1⟩⟩, fun _ => ⟨fun _ => True.intro, fun _ => ⟨fun z => absurd z hp, fun _ => ⟨sw, fun u eu => by rw [eu]; exact k1⟩⟩⟩⟩⟩, ⟨fun z => absurd z ne10, fun _ => ⟨fun z => absurd z hp, fun _ => ⟨⟨vin (by omega) (by omega), True.intro⟩, fun u eu => by rw [eu]; exact ⟨fun z => absurd z hA', fun _ => k2⟩⟩⟩⟩, c + 1, a, b, d, a', b', d', Ss', Te', by omega, ?_, k5, k6⟩
          by_cases z0 : i = 0
          · rw [if_pos (i0.mpr z0)]; exact k4
          · rw [if_neg (fun z => z0 (i0.mp z)), if_neg (xP z0)]; exact k4
    · rw [if_neg hgo] at h9
      subst h9
      have y0 : ¬ nI i = 0 := fun z => hgo (Or.inl (i0.mp z))
      have y1 : lN X ≤ lN P := iP.mpr (by omega)
      rw [if_neg n9, if_neg y0, if_pos y1, if_pos rfl]
      exact ⟨⟨fun z => absurd z n9, fun _ => ⟨fun z => absurd z y0, fun _ => ⟨fun _ => True.intro, fun z => absurd y1 z⟩⟩⟩, ⟨fun _ => True.intro, fun z => absurd rfl z⟩, 0, _, _, _, _, _, _, Ss, Te, by omega, rfl, rfl, hs⟩

end
section
/-! signs: lengths of both -/
theorem b_len0 {v m : Nat} {Ss Te : Nat → Int32} (hv : v < 1073741824) (hm : m + 11 ≤ 61) (hs : SR m Ss Te) (Bz : Int32) (Bk : Nat → Int32) :
    S_X4_writeDigits (lN (v / 65536)) Ss (nI m) ∧ S_X6_sayNumber (lN (v / 65536)) (nI m) Te Bz Bk ∧ ∃ (c1 : Nat) (S1 T1 B1 : Nat → Int32), c1 ≤ 5 ∧ f_X4_writeDigits (lN (v / 65536)) Ss (nI m) = (S1, nI (m + c1)) ∧ f_X6_sayNumber (lN (v / 65536)) (nI m) Te Bz Bk = (nI (m + c1), T1, 0, B1) ∧
      S_X4_write (46 : Int32) S1 (nI (m + c1)) ∧ f_X4_write (46 : Int32) S1 (nI (m + c1)) = (upd S1 (m + c1) 46, nI (m + c1 + 1)) ∧ f_X6_say (46 : Int32) (nI (m + c1)) T1 = (nI (m + c1 + 1), upd T1 (m + c1) 46) ∧
      S_X4_writeFraction (lN (v % 65536)) (upd S1 (m + c1) 46) (nI (m + c1 + 1)) ∧ SL_X6_sayLength_63 10 ((10 : Int64) * lN (v % 65536) + (5 : Int64)) (10 : Int64) (1 : Int32) (nI (m + c1 + 1)) (upd T1 (m + c1) 46) ∧
      ∃ (c2 : Nat) (S2 T2 : Nat → Int32) (a' b' : Int64) (d' : Int32), c2 ≤ 5 ∧ f_X4_writeFraction (lN (v % 65536)) (upd S1 (m + c1) 46) (nI (m + c1 + 1)) = (S2, nI (m + c1 + 1 + c2)) ∧ L_X6_sayLength_63 10 ((10 : Int64) * lN (v % 65536) + (5 : Int64)) (10 : Int64) (1 : Int32) (nI (m + c1 + 1)) (upd T1 (m + c1) 46) = (a', b', d', nI (m + c1 + 1 + c2), T2) ∧ SR (m + c1 + 1 + c2) S2 T2 := by
  obtain ⟨s1, s2, c1, S1, T1, B1, h1, e1, e2, e3⟩ := b_dig (v := v / 65536) (m := m) (k := 5) (by omega) (by omega) (by omega) (by omega) hs Bz Bk
  obtain ⟨sw, ew⟩ := wrN (m := m + c1) (by omega) 46 S1
  have ey := sayN (m := m + c1) (by omega) 46 T1
  have x5 : (10 : Int64) * lN (v % 65536) + (5 : Int64) = lN (10 * (v % 65536) + 5) := by
    rw [show (10 : Int64) * lN (v % 65536) = lN (10 * (v % 65536)) from lN_mul 10 _]
    exact lN_add _ 5
  obtain ⟨k1, k2, c2, a, b, d, a', b', d', S2, T2, k3, k4, k5, k6⟩ := L_frac 10 0 (m + c1 + 1) (10 * (v % 65536) + 5) 10 _ _ 1 (Or.inl ⟨rfl, rfl⟩) (by omega) (by omega) (by omega) (SR_1 e3 46) (by rw [if_pos (Or.inl rfl)])
  have k1 : SL_X4_writeFraction_18 10 (lN (10 * (v % 65536) + 5)) (10 : Int64) (0 : Int32) (upd S1 (m + c1) 46) (nI (m + c1 + 1)) := k1
  have k2 : SL_X6_sayLength_63 10 (lN (10 * (v % 65536) + 5)) (10 : Int64) (1 : Int32) (nI (m + c1 + 1)) (upd T1 (m + c1) 46) := k2
  have k4 : L_X4_writeFraction_18 10 (lN (10 * (v % 65536) + 5)) (10 : Int64) (0 : Int32) (upd S1 (m + c1) 46) (nI (m + c1 + 1)) = (a, b, d, S2, nI (m + c1 + 1 + c2)) := k4
  have k5 : L_X6_sayLength_63 10 (lN (10 * (v % 65536) + 5)) (10 : Int64) (1 : Int32) (nI (m + c1 + 1)) (upd T1 (m + c1) 46) = (a', b', d', nI (m + c1 + 1 + c2), T2) := k5
  refine ⟨s1, s2, c1, S1, T1, B1, h1, e1, e2, sw, ew, ey, ?_, ?_, c2, S2, T2, a', b', d', k3, ?_, ?_, k6⟩
  · unfold S_X4_writeFraction
    rw [x5]
    exact ⟨k1, fun _ _ => True.intro⟩
  · rw [x5]; exact k2
  · unfold f_X4_writeFraction
    rw [x5]
    simp only [k4]
  · rw [x5]; exact k5
theorem b_len {a : Int64} (h1 : -1073741824 < a.toInt) (h2 : a.toInt < 1073741824) {m : Nat} (hm : m + 12 ≤ 61) {Ss Te : Nat → Int32} (hs : SR m Ss Te) (Bz : Int32) (Bk : Nat → Int32) :
    S_X4_writeLength a Ss (nI m) ∧ S_X6_sayLength a (nI m) Te Bz Bk ∧ ∃ (c : Nat) (Ss' Te' Bk' : Nat → Int32), c ≤ 12 ∧ f_X4_writeLength a Ss (nI m) = (Ss', nI (m + c)) ∧ f_X6_sayLength a (nI m) Te Bz Bk = (nI (m + c), Te', 0, Bk') ∧ SR (m + c) Ss' Te' := by
  have l0 : (0 : Int64).toInt = 0 := rfl
  by_cases h0 : (0 : Int64) ≤ a
  · obtain ⟨v, hv, e, rfl⟩ := posL (a := a) (by rw [i64le] at h0; omega) (by omega)
    have q1 : lN v / (65536 : Int64) = lN (v / 65536) := pk_lDiv (b := 65536) (by omega) (by omega) (by omega)
    have q2 : lN v - lN v / (65536 : Int64) * (65536 : Int64) = lN (v % 65536) := pk_lRem (b := 65536) (by omega) (by omega) (by omega)
    obtain ⟨s1, s2, c1, S1, T1, B1, hc1, e1, e2, sw, ew, ey, s3, s4, c2, S2, T2, a', b', d', hc2, e5, e6, e7⟩ := b_len0 (v := v) (m := m) (by omega) (by omega) hs Bz Bk
    have em : m + c1 + 1 + c2 = m + (c1 + 1 + c2) := by omega
    rw [em] at e5 e6 e7
    unfold S_X4_writeLength S_X6_sayLength f_X4_writeLength f_X6_sayLength
    rw [q2, q1, if_pos h0, if_pos h0]
    refine ⟨⟨fun _ => ⟨s1, fun u4 u4e => ?_⟩, fun z => absurd h0 z⟩, ⟨fun _ => ⟨s2, fun u4 u4e => ?_⟩, fun z => absurd h0 z⟩, c1 + 1 + c2, S2, T2, B1, by omega, ?_, ?_, e7⟩
    · rw [u4e, e1]; exact ⟨sw, fun u6 u6e => by rw [u6e, ew]; exact ⟨s3, fun _ _ => True.intro⟩⟩
    · rw [u4e, e2]; exact ⟨⟨vin (by omega) (by omega), True.intro⟩, fun u6 u6e => by rw [u6e, ey]; exact ⟨s4, fun _ _ => True.intro⟩⟩
    · simp only [e1, ew, e5]
    · simp only [e2, ey, e6]
  · have hn : a.toInt < 0 := by
      rw [i64le] at h0; omega
    obtain ⟨v, hv, e, en⟩ := negL hn (by omega)
    have q1 : lN v / (65536 : Int64) = lN (v / 65536) := pk_lDiv (b := 65536) (by omega) (by omega) (by omega)
    have q2 : lN v - lN v / (65536 : Int64) * (65536 : Int64) = lN (v % 65536) := pk_lRem (b := 65536) (by omega) (by omega) (by omega)
    obtain ⟨sx, ex⟩ := wrN (m := m) (by omega) 45 Ss
    have ez := sayN (m := m) (by omega) 45 Te
    obtain ⟨s1, s2, c1, S1, T1, B1, hc1, e1, e2, sw, ew, ey, s3, s4, c2, S2, T2, a', b', d', hc2, e5, e6, e7⟩ := b_len0 (v := v) (m := m + 1) (by omega) (by omega) (SR_1 hs 45) Bz Bk
    have em : m + 1 + c1 + 1 + c2 = m + (1 + c1 + 1 + c2) := by omega
    rw [em] at e5 e6 e7
    unfold S_X4_writeLength S_X6_sayLength f_X4_writeLength f_X6_sayLength
    rw [en, q2, q1, if_neg h0, if_neg h0]
    refine ⟨⟨fun z => absurd z h0, fun _ => ⟨sx, fun u0 u0e => ?_⟩⟩, ⟨fun z => absurd z h0, fun _ => ⟨⟨vin (by omega) (by omega), True.intro⟩, fun u0 u0e => ?_⟩⟩, 1 + c1 + 1 + c2, S2, T2, B1, by omega, ?_, ?_, e7⟩
    · rw [u0e, ex]
      refine ⟨s1, fun u4 u4e => ?_⟩
      rw [u4e, e1]; exact ⟨sw, fun u6 u6e => by rw [u6e, ew]; exact ⟨s3, fun _ _ => True.intro⟩⟩
    · rw [u0e, ez]
      refine ⟨s2, fun u4 u4e => ?_⟩
      rw [u4e, e2]; exact ⟨⟨vin (by omega) (by omega), True.intro⟩, fun u6 u6e => by rw [u6e, ey]; exact ⟨s4, fun _ _ => True.intro⟩⟩
    · simp only [ex, e1, ew, e5]
    · simp only [ez, e2, ey, e6]

end
section
/-! signs: texts -/
theorem len_bs {bs : List Int32} (h : bs.length < 2147483648) : f_J0_length_8abf5 bs = nI bs.length := by
  unfold f_J0_length_8abf5
  have e : (Int32.ofNat bs.length) >>> ((0 : Int32) &&& 31) = Int32.ofNat bs.length := by
    have e0 : (0 : Int32) &&& 31 = 0 := by decide
    rw [e0]
    simp
  exact e
theorem S_char {bs : List Int32} {i : Nat} (h : bs.length < 2147483648) (hi : i < bs.length) : S_J0_charAt_5068e bs (nI i) := by
  have n1 : ¬ nI i < 0 := nI_pos (by omega)
  have n2 : nI i < Int32.ofNat bs.length := (nI_ltI (a := i) (b := bs.length) (by omega) h).mpr hi
  exact ⟨⟨⟨⟨fun z => n1 z, fun _ => ⟨fun _ => True.intro, fun z => z n2⟩⟩, True.intro⟩, vin hi h, True.intro⟩, True.intro⟩
theorem L_text {bs : List Int32} (hl : bs.length ≤ 21) (hb : ∀ j, j < bs.length → f_J0_charAt_5068e bs (nI j) = bs.getD j 0) : ∀ (n i m : Nat) (Ss : Nat → Int32), i ≤ bs.length → bs.length - i < n → m + (bs.length - i) ≤ 61 →
    SL_X4_writeText_2 n (nI i) Ss (nI m) bs ∧ ∃ (x : Int32) (Ss' : Nat → Int32), L_X4_writeText_2 n (nI i) Ss (nI m) bs = (x, Ss', nI (m + (bs.length - i))) ∧ (∀ q, q < m → Ss' q = Ss q) ∧ ∀ j, j < bs.length - i → Ss' (m + j) = bs.getD (i + j) 0 := by
  intro n
  induction n with
  | zero => intro i m Ss _ h; exact absurd h (by omega)
  | succ n ih =>
    intro i m Ss hi hn hm
    rw [SL_X4_writeText_2, L_X4_writeText_2, len_bs (by omega)]
    have i1 : (nI bs.length ≤ nI i) ↔ bs.length ≤ i := nI_leI (by omega) (by omega)
    by_cases hc : bs.length ≤ i
    · have y := i1.mpr hc
      rw [if_pos y, show bs.length - i = 0 by omega]
      exact ⟨⟨fun _ => True.intro, fun z => absurd y z⟩, _, Ss, rfl, fun _ _ => rfl, fun j hj => absurd hj (by omega)⟩
    · have y : ¬ nI bs.length ≤ nI i := fun z => hc (i1.mp z)
      obtain ⟨sw, ew⟩ := wrN (m := m) (by omega) (bs.getD i 0) Ss
      obtain ⟨s1, x, Ss', s2, s3, s4⟩ := ih (i + 1) (m + 1) (upd Ss m (bs.getD i 0)) (by omega) (by omega) (by omega)
      rw [if_neg y, hb i (by omega), ← nI_succ]
      simp only [ew]
      refine ⟨⟨fun z => absurd z y, fun _ => ⟨S_char (by omega) (by omega), sw, fun u eu => by rw [eu]; exact s1⟩⟩, x, Ss', by rw [s2]; congr 3; omega, fun q hq => ?_, fun j hj => ?_⟩
      · rw [s3 q (by omega), uI, if_neg (by omega)]
      · by_cases z : j = 0
        · subst z
          rw [Nat.add_zero, s3 m (by omega), uI, if_pos rfl, Nat.add_zero]
        · have e := s4 (j - 1) (by omega)
          rw [show m + 1 + (j - 1) = m + j by omega, show i + 1 + (j - 1) = i + j by omega] at e
          exact e

end
section
/-! signs: the row -/
theorem L_row {h c N : Nat} {Bc Ce : Nat → Int64} (hh : h + 21 ≤ 928) (hcc : c + 21 ≤ 3360) (hN : N ≤ 20) (hB : Bc h = lN N) (hC : Ce c = lN N) (hE : ∀ j, j < 20 → Bc (h + 1 + j) = Ce (c + 1 + j)) :
    ∀ (n i m : Nat) (Ss Te : Nat → Int32), i ≤ N → 21 - i ≤ n → m + (20 - i) ≤ 61 → SR m Ss Te →
      SL_X5_writeRow_2 n (nI i) Ss (nI m) (nI h) Bc ∧ SL_X6_shown_93 (n + 1) (nI i) (nI m) Te (nI c) Ce ∧ ∃ (x y : Int32) (k : Nat) (Ss' Te' : Nat → Int32), m + k ≤ 61 ∧ L_X5_writeRow_2 n (nI i) Ss (nI m) (nI h) Bc = (x, Ss', nI (m + k)) ∧ L_X6_shown_93 (n + 1) (nI i) (nI m) Te (nI c) Ce = (y, nI (m + k), Te') ∧ SR (m + k) Ss' Te' := by
  intro n
  induction n with
  | zero => intro i m Ss Te _ h; exact absurd h (by omega)
  | succ n ih =>
    intro i m Ss Te hi hn hm hs
    have ch : (nI h).toNatClampNeg = h := clN (by omega)
    have cc : (nI c).toNatClampNeg = c := clN (by omega)
    have eh : nI h + (1 : Int32) + nI i = nI (h + 1 + i) := by rw [← nI_succ, nI_add]
    have ec : nI c + (1 : Int32) + nI i = nI (c + 1 + i) := by rw [← nI_succ, nI_add]
    have ch2 : (nI (h + 1 + i)).toNatClampNeg = h + 1 + i := clN (by omega)
    have cc2 : (nI (c + 1 + i)).toNatClampNeg = c + 1 + i := clN (by omega)
    have il : (nI i).toInt64 = lN i := nI_l (by omega)
    have i20 : ((20 : Int32) ≤ nI i) ↔ 20 ≤ i := nI_leI (a := 20) (by omega) (by omega)
    have iN : (lN N ≤ lN i) ↔ N ≤ i := lN_le (by omega) (by omega)
    have hvc : vp_in (nI c) 3360 := vin (by omega) (by omega)
    have hvh : vp_in (nI h) 928 := vin (by omega) (by omega)
    rw [SL_X5_writeRow_2, L_X5_writeRow_2, SL_X6_shown_93, L_X6_shown_93, ch, cc, hB, hC, il, eh, ec, ch2, cc2]
    by_cases hst : N ≤ i
    · have y := iN.mpr hst
      rw [if_pos y, if_pos y]
      refine ⟨⟨fun _ => True.intro, fun _ => ⟨hvh, fun _ => True.intro, fun z => absurd y z⟩⟩, ⟨hvc, fun _ => True.intro, fun z => absurd y z⟩, nI i, nI i, 0, Ss, Te, by omega, ?_, rfl, hs⟩
      rw [ite_self]
      rfl
    · have y : ¬ lN N ≤ lN i := fun z => hst (iN.mp z)
      have y2 : ¬ (20 : Int32) ≤ nI i := fun z => by have := i20.mp z; omega
      obtain ⟨sw, ew⟩ := wrN (m := m) (by omega) (Bc (h + 1 + i)).toInt32 Ss
      have ey := sayN (m := m) (by omega) (Ce (c + 1 + i)).toInt32 Te
      rw [← hE i (by omega)] at ey
      obtain ⟨s1, s2, x, yy, k, Ss', Te', hk, e1, e2, e3⟩ := ih (i + 1) (m + 1) _ _ (by omega) (by omega) (by omega) (SR_1 hs (Bc (h + 1 + i)).toInt32)
      have em : m + 1 + k = m + (k + 1) := by omega
      rw [em] at e1 e2 e3
      rw [if_neg y, if_neg y, if_neg y2, ← hE i (by omega), ← nI_succ]
      simp only [ew, ey]
      exact ⟨⟨fun z => absurd z y2, fun _ => ⟨hvh, fun z => absurd z y, fun _ => ⟨vin (by omega) (by omega), sw, fun u eu => by rw [eu]; exact s1⟩⟩⟩, ⟨hvc, fun z => absurd z y, fun _ => ⟨vin (by omega) (by omega), ⟨vin (by omega) (by omega), True.intro⟩, fun u eu => by rw [eu]; exact s2⟩⟩, x, yy, k + 1, Ss', Te', by omega, e1, e2, e3⟩

end
section
/-! signs: texts of both -/
theorem SR_text {bs : List Int32} {m : Nat} {S S' T : Nat → Int32} (hs : SR m S T) (h1 : ∀ q, q < m → S' q = S q) (h2 : ∀ j, j < bs.length → S' (m + j) = bs.getD j 0) {T' : Nat → Int32} (h3 : ∀ q, q < m → T' q = T q) (h4 : ∀ j, j < bs.length → T' (m + j) = bs.getD j 0) : SR (m + bs.length) S' T' := by
  intro q hq
  rcases Nat.lt_or_ge q m with z | z
  · rw [h1 q z, h3 q z]; exact hs q z
  · have e1 := h2 (q - m) (by omega)
    have e2 := h4 (q - m) (by omega)
    rw [show m + (q - m) = q by omega] at e1 e2
    rw [e1, e2]
/-- writeText of a literal -/
theorem w_text {bs : List Int32} (hl : bs.length ≤ 21) (hb : ∀ j, j < bs.length → f_J0_charAt_5068e bs (nI j) = bs.getD j 0) {m : Nat} (hm : m + bs.length ≤ 61) (Ss : Nat → Int32) :
    S_X4_writeText bs Ss (nI m) ∧ ∃ Ss', f_X4_writeText bs Ss (nI m) = (Ss', nI (m + bs.length)) ∧ (∀ q, q < m → Ss' q = Ss q) ∧ ∀ j, j < bs.length → Ss' (m + j) = bs.getD j 0 := by
  obtain ⟨s1, x, Ss', s2, s3, s4⟩ := L_text hl hb 22 0 m Ss (by omega) (by omega) (by omega)
  have s1 : SL_X4_writeText_2 22 (0 : Int32) Ss (nI m) bs := s1
  have s2 : L_X4_writeText_2 22 (0 : Int32) Ss (nI m) bs = (x, Ss', nI (m + (bs.length - 0))) := s2
  refine ⟨⟨s1, fun _ _ => True.intro⟩, Ss', ?_, s3, fun j hj => ?_⟩
  · unfold f_X4_writeText
    simp only [s2, Nat.sub_zero]
  · have e := s4 j (by omega)
    rw [Nat.zero_add] at e
    exact e

end
section
theorem b_void {m : Nat} (hm : m + 4 ≤ 61) {Ss Te : Nat → Int32} (hs : SR m Ss Te) :
    S_X4_writeText [118, 111, 105, 100] Ss (nI m) ∧ S_X6_sayVoid (nI m) Te ∧ ∃ Ss' Te', f_X4_writeText [118, 111, 105, 100] Ss (nI m) = (Ss', nI (m + 4)) ∧ f_X6_sayVoid (nI m) Te = (nI (m + 4), Te') ∧ SR (m + 4) Ss' Te' := by
  obtain ⟨s1, Ss', e1, e2, e3⟩ := w_text (bs := [118, 111, 105, 100]) (by decide) (by decide) (m := m) hm Ss
  have a1 := sayN (m := m) (by omega) 118 Te
  have a2 := sayN (m := m + 1) (by omega) 111 (upd Te m 118)
  have a3 := sayN (m := m + 1 + 1) (by omega) 105 (upd (upd Te m 118) (m + 1) 111)
  have a4 := sayN (m := m + 1 + 1 + 1) (by omega) 100 (upd (upd (upd Te m 118) (m + 1) 111) (m + 1 + 1) 105)
  have v : ∀ k, k < 120 → vp_in (nI k) 120 := fun k hk => vin hk (by omega)
  refine ⟨s1, ?_, Ss', upd (upd (upd (upd Te m 118) (m + 1) 111) (m + 1 + 1) 105) (m + 1 + 1 + 1) 100, e1, ?_, ?_⟩
  · unfold S_X6_sayVoid
    refine ⟨⟨v m (by omega), True.intro⟩, fun u2 h2 => ?_⟩
    rw [h2, a1]
    refine ⟨⟨v (m + 1) (by omega), True.intro⟩, fun u4 h4 => ?_⟩
    rw [h4, a2]
    refine ⟨⟨v (m + 1 + 1) (by omega), True.intro⟩, fun u6 h6 => ?_⟩
    rw [h6, a3]
    exact ⟨⟨v (m + 1 + 1 + 1) (by omega), True.intro⟩, fun _ _ => True.intro⟩
  · unfold f_X6_sayVoid
    simp only [a1, a2, a3, a4]
  · have z0 := e3 0 (by decide)
    have z1 := e3 1 (by decide)
    have z2 := e3 2 (by decide)
    have z3 := e3 3 (by decide)
    intro q hq
    rw [uI, uI, uI, uI]
    by_cases h3 : q = m + 1 + 1 + 1
    · rw [if_pos h3, h3]; exact z3
    · rw [if_neg h3]
      by_cases h2 : q = m + 1 + 1
      · rw [if_pos h2, h2]; exact z2
      · rw [if_neg h2]
        by_cases h1 : q = m + 1
        · rw [if_pos h1, h1]; exact z1
        · rw [if_neg h1]
          by_cases h0 : q = m
          · rw [if_pos h0, h0]; exact z0
          · rw [if_neg h0, e2 q (by omega)]; exact hs q (by omega)

end
section
/-! signs: the words of glue -/
theorem b_plus {m : Nat} (hm : m + 6 ≤ 61) {Ss Te : Nat → Int32} (hs : SR m Ss Te) :
    S_X4_writeText [32, 112, 108, 117, 115, 32] Ss (nI m) ∧ S_X6_sayWord (1 : Int32) (nI m) Te ∧ ∃ Ss' Te', f_X4_writeText [32, 112, 108, 117, 115, 32] Ss (nI m) = (Ss', nI (m + 6)) ∧ f_X6_sayWord (1 : Int32) (nI m) Te = (nI (m + 6), Te') ∧ SR (m + 6) Ss' Te' := by
  obtain ⟨s1, Ss', e1, e2, e3⟩ := w_text (bs := [32, 112, 108, 117, 115, 32]) (by decide) (by decide) (m := m) hm Ss
  have a0 := sayN (m := m) (by omega) 32 Te
  have a1 := sayN (m := m + 1) (by omega) 112 (upd Te m 32)
  have a2 := sayN (m := m + 1 + 1) (by omega) 108 (upd (upd Te m 32) (m + 1) 112)
  have a3 := sayN (m := m + 1 + 1 + 1) (by omega) 117 (upd (upd (upd Te m 32) (m + 1) 112) (m + 1 + 1) 108)
  have a4 := sayN (m := m + 1 + 1 + 1 + 1) (by omega) 115 (upd (upd (upd (upd Te m 32) (m + 1) 112) (m + 1 + 1) 108) (m + 1 + 1 + 1) 117)
  have a5 := sayN (m := m + 1 + 1 + 1 + 1 + 1) (by omega) 32 (upd (upd (upd (upd (upd Te m 32) (m + 1) 112) (m + 1 + 1) 108) (m + 1 + 1 + 1) 117) (m + 1 + 1 + 1 + 1) 115)
  have v : ∀ k, k < 120 → vp_in (nI k) 120 := fun k hk => vin hk (by omega)
  refine ⟨s1, ?_, Ss', (upd (upd (upd (upd (upd (upd Te m 32) (m + 1) 112) (m + 1 + 1) 108) (m + 1 + 1 + 1) 117) (m + 1 + 1 + 1 + 1) 115) (m + 1 + 1 + 1 + 1 + 1) 32), e1, ?_, ?_⟩
  · unfold S_X6_sayWord
    refine ⟨⟨v (m) (by omega), True.intro⟩, fun u0 h0 => ?_⟩
    rw [h0, a0]
    refine ⟨fun z => absurd z (by decide), fun _ => ?_⟩
    refine ⟨⟨v (m + 1) (by omega), True.intro⟩, fun u1 h1 => ?_⟩
    rw [h1, a1]
    refine ⟨⟨v (m + 1 + 1) (by omega), True.intro⟩, fun u2 h2 => ?_⟩
    rw [h2, a2]
    refine ⟨⟨v (m + 1 + 1 + 1) (by omega), True.intro⟩, fun u3 h3 => ?_⟩
    rw [h3, a3]
    refine ⟨⟨v (m + 1 + 1 + 1 + 1) (by omega), True.intro⟩, fun u4 h4 => ?_⟩
    rw [h4, a4]
    exact ⟨⟨v (m + 1 + 1 + 1 + 1 + 1) (by omega), True.intro⟩, fun _ _ => True.intro⟩
  · unfold f_X6_sayWord
    simp only [if_neg ne10, a0, a1, a2, a3, a4, a5]
  · have z0 := e3 0 (by decide)
    have z1 := e3 1 (by decide)
    have z2 := e3 2 (by decide)
    have z3 := e3 3 (by decide)
    have z4 := e3 4 (by decide)
    have z5 := e3 5 (by decide)
    intro q hq
    rw [uI, uI, uI, uI, uI, uI]
    by_cases y5 : q = m + 1 + 1 + 1 + 1 + 1
    · rw [if_pos y5, y5]; exact z5
    · rw [if_neg y5]
      by_cases y4 : q = m + 1 + 1 + 1 + 1
      · rw [if_pos y4, y4]; exact z4
      · rw [if_neg y4]
        by_cases y3 : q = m + 1 + 1 + 1
        · rw [if_pos y3, y3]; exact z3
        · rw [if_neg y3]
          by_cases y2 : q = m + 1 + 1
          · rw [if_pos y2, y2]; exact z2
          · rw [if_neg y2]
            by_cases y1 : q = m + 1
            · rw [if_pos y1, y1]; exact z1
            · rw [if_neg y1]
              by_cases y0 : q = m
              · rw [if_pos y0, y0]; exact z0
              · rw [if_neg y0]
                rw [e2 q (by omega)]; exact hs q (by omega)
theorem b_minus {m : Nat} (hm : m + 7 ≤ 61) {Ss Te : Nat → Int32} (hs : SR m Ss Te) :
    S_X4_writeText [32, 109, 105, 110, 117, 115, 32] Ss (nI m) ∧ S_X6_sayWord (0 : Int32) (nI m) Te ∧ ∃ Ss' Te', f_X4_writeText [32, 109, 105, 110, 117, 115, 32] Ss (nI m) = (Ss', nI (m + 7)) ∧ f_X6_sayWord (0 : Int32) (nI m) Te = (nI (m + 7), Te') ∧ SR (m + 7) Ss' Te' := by
  obtain ⟨s1, Ss', e1, e2, e3⟩ := w_text (bs := [32, 109, 105, 110, 117, 115, 32]) (by decide) (by decide) (m := m) hm Ss
  have a0 := sayN (m := m) (by omega) 32 Te
  have a1 := sayN (m := m + 1) (by omega) 109 (upd Te m 32)
  have a2 := sayN (m := m + 1 + 1) (by omega) 105 (upd (upd Te m 32) (m + 1) 109)
  have a3 := sayN (m := m + 1 + 1 + 1) (by omega) 110 (upd (upd (upd Te m 32) (m + 1) 109) (m + 1 + 1) 105)
  have a4 := sayN (m := m + 1 + 1 + 1 + 1) (by omega) 117 (upd (upd (upd (upd Te m 32) (m + 1) 109) (m + 1 + 1) 105) (m + 1 + 1 + 1) 110)
  have a5 := sayN (m := m + 1 + 1 + 1 + 1 + 1) (by omega) 115 (upd (upd (upd (upd (upd Te m 32) (m + 1) 109) (m + 1 + 1) 105) (m + 1 + 1 + 1) 110) (m + 1 + 1 + 1 + 1) 117)
  have a6 := sayN (m := m + 1 + 1 + 1 + 1 + 1 + 1) (by omega) 32 (upd (upd (upd (upd (upd (upd Te m 32) (m + 1) 109) (m + 1 + 1) 105) (m + 1 + 1 + 1) 110) (m + 1 + 1 + 1 + 1) 117) (m + 1 + 1 + 1 + 1 + 1) 115)
  have v : ∀ k, k < 120 → vp_in (nI k) 120 := fun k hk => vin hk (by omega)
  refine ⟨s1, ?_, Ss', (upd (upd (upd (upd (upd (upd (upd Te m 32) (m + 1) 109) (m + 1 + 1) 105) (m + 1 + 1 + 1) 110) (m + 1 + 1 + 1 + 1) 117) (m + 1 + 1 + 1 + 1 + 1) 115) (m + 1 + 1 + 1 + 1 + 1 + 1) 32), e1, ?_, ?_⟩
  · unfold S_X6_sayWord
    refine ⟨⟨v (m) (by omega), True.intro⟩, fun u0 h0 => ?_⟩
    rw [h0, a0]
    refine ⟨fun _ => ?_, fun z => absurd rfl z⟩
    refine ⟨⟨v (m + 1) (by omega), True.intro⟩, fun u1 h1 => ?_⟩
    rw [h1, a1]
    refine ⟨⟨v (m + 1 + 1) (by omega), True.intro⟩, fun u2 h2 => ?_⟩
    rw [h2, a2]
    refine ⟨⟨v (m + 1 + 1 + 1) (by omega), True.intro⟩, fun u3 h3 => ?_⟩
    rw [h3, a3]
    refine ⟨⟨v (m + 1 + 1 + 1 + 1) (by omega), True.intro⟩, fun u4 h4 => ?_⟩
    rw [h4, a4]
    refine ⟨⟨v (m + 1 + 1 + 1 + 1 + 1) (by omega), True.intro⟩, fun u5 h5 => ?_⟩
    rw [h5, a5]
    exact ⟨⟨v (m + 1 + 1 + 1 + 1 + 1 + 1) (by omega), True.intro⟩, fun _ _ => True.intro⟩
  · unfold f_X6_sayWord
    simp only [if_true, a0, a1, a2, a3, a4, a5, a6]
  · have z0 := e3 0 (by decide)
    have z1 := e3 1 (by decide)
    have z2 := e3 2 (by decide)
    have z3 := e3 3 (by decide)
    have z4 := e3 4 (by decide)
    have z5 := e3 5 (by decide)
    have z6 := e3 6 (by decide)
    intro q hq
    rw [uI, uI, uI, uI, uI, uI, uI]
    by_cases y6 : q = m + 1 + 1 + 1 + 1 + 1 + 1
    · rw [if_pos y6, y6]; exact z6
    · rw [if_neg y6]
      by_cases y5 : q = m + 1 + 1 + 1 + 1 + 1
      · rw [if_pos y5, y5]; exact z5
      · rw [if_neg y5]
        by_cases y4 : q = m + 1 + 1 + 1 + 1
        · rw [if_pos y4, y4]; exact z4
        · rw [if_neg y4]
          by_cases y3 : q = m + 1 + 1 + 1
          · rw [if_pos y3, y3]; exact z3
          · rw [if_neg y3]
            by_cases y2 : q = m + 1 + 1
            · rw [if_pos y2, y2]; exact z2
            · rw [if_neg y2]
              by_cases y1 : q = m + 1
              · rw [if_pos y1, y1]; exact z1
              · rw [if_neg y1]
                by_cases y0 : q = m
                · rw [if_pos y0, y0]; exact z0
                · rw [if_neg y0]
                  rw [e2 q (by omega)]; exact hs q (by omega)

end
section
/-! signs: an order's ells -/
theorem L_ell {o : Nat} (ho : o ≤ 3) : ∀ (n i m : Nat) (Te : Nat → Int32), i ≤ o → o - i < n → m + (o - i) ≤ 120 →
    SL_X6_sayOrder_36 n (nI i) (nI m) Te (lN o) ∧ ∃ (x : Int32) (Te' : Nat → Int32), L_X6_sayOrder_36 n (nI i) (nI m) Te (lN o) = (x, nI (m + (o - i)), Te') ∧ (∀ q, q < m → Te' q = Te q) ∧ ∀ j, j < o - i → Te' (m + j) = 108 := by
  intro n
  induction n with
  | zero => intro i m Te _ h; exact absurd h (by omega)
  | succ n ih =>
    intro i m Te hi hn hm
    rw [SL_X6_sayOrder_36, L_X6_sayOrder_36, nI_l (n := i) (by omega)]
    have i1 : (lN o ≤ lN i) ↔ o ≤ i := lN_le (by omega) (by omega)
    by_cases hc : o ≤ i
    · have y := i1.mpr hc
      rw [if_pos y, show o - i = 0 by omega]
      exact ⟨⟨fun _ => True.intro, fun z => absurd y z⟩, _, Te, rfl, fun _ _ => rfl, fun j hj => absurd hj (by omega)⟩
    · have y : ¬ lN o ≤ lN i := fun z => hc (i1.mp z)
      have ey := sayN (m := m) (by omega) 108 Te
      obtain ⟨s1, x, Te', s2, s3, s4⟩ := ih (i + 1) (m + 1) (upd Te m 108) (by omega) (by omega) (by omega)
      rw [if_neg y, ← nI_succ]
      simp only [ey]
      refine ⟨⟨fun z => absurd z y, fun _ => ⟨⟨vin (by omega) (by omega), True.intro⟩, fun u eu => by rw [eu]; exact s1⟩⟩, x, Te', by rw [s2]; congr 3; omega, fun q hq => ?_, fun j hj => ?_⟩
      · rw [s3 q (by omega), uI, if_neg (by omega)]
      · by_cases z : j = 0
        · subst z
          rw [Nat.add_zero, s3 m (by omega), uI, if_pos rfl]
        · have e := s4 (j - 1) (by omega)
          rw [show m + 1 + (j - 1) = m + j by omega] at e
          exact e

end
section
/-! signs: an order -/
theorem b_ord1 {o : Nat} {bs : List Int32} (ho : o ≤ 3) (hl : bs.length = 2 + o) (hb : ∀ j, j < bs.length → f_J0_charAt_5068e bs (nI j) = bs.getD j 0) {a b : Int32} (h0 : bs.getD 0 0 = a) (h1 : bs.getD 1 0 = b) (h2 : ∀ j, j < o → bs.getD (2 + j) 0 = 108) {m : Nat} (hm : m + (2 + o) ≤ 61) {Ss Te : Nat → Int32} (hs : SR m Ss Te) :
    S_X4_writeText bs Ss (nI m) ∧ SL_X6_sayOrder_36 5 (0 : Int32) (nI (m + 1 + 1)) (upd (upd Te m a) (m + 1) b) (lN o) ∧ ∃ (x : Int32) (Ss' Te' : Nat → Int32), f_X4_writeText bs Ss (nI m) = (Ss', nI (m + (2 + o))) ∧ L_X6_sayOrder_36 5 (0 : Int32) (nI (m + 1 + 1)) (upd (upd Te m a) (m + 1) b) (lN o) = (x, nI (m + (2 + o)), Te') ∧ SR (m + (2 + o)) Ss' Te' := by
  obtain ⟨s1, Ss', e1, e2, e3⟩ := w_text (bs := bs) (by omega) hb (m := m) (by omega) Ss
  obtain ⟨s2, x, Te', e4, e5, e6⟩ := L_ell ho 5 0 (m + 1 + 1) (upd (upd Te m a) (m + 1) b) (by omega) (by omega) (by omega)
  have s2 : SL_X6_sayOrder_36 5 (0 : Int32) (nI (m + 1 + 1)) (upd (upd Te m a) (m + 1) b) (lN o) := s2
  have e4 : L_X6_sayOrder_36 5 (0 : Int32) (nI (m + 1 + 1)) (upd (upd Te m a) (m + 1) b) (lN o) = (x, nI (m + 1 + 1 + (o - 0)), Te') := e4
  rw [show m + 1 + 1 + (o - 0) = m + (2 + o) by omega] at e4
  rw [hl] at e1 e3
  refine ⟨s1, s2, x, Ss', Te', e1, e4, fun q hq => ?_⟩
  by_cases z : q < m
  · rw [e2 q z, e5 q (by omega), uI, if_neg (by omega), uI, if_neg (by omega)]; exact hs q z
  · by_cases z0 : q = m
    · have y := e3 0 (by omega)
      rw [Nat.add_zero] at y
      rw [z0, y, h0, e5 m (by omega), uI, if_neg (by omega), uI, if_pos rfl]
    · by_cases z1 : q = m + 1
      · rw [z1, e3 1 (by omega), h1, e5 (m + 1) (by omega), uI, if_pos rfl]
      · obtain ⟨j, hj, ej⟩ : ∃ j, j < o ∧ q = m + (2 + j) := ⟨q - m - 2, by omega, by omega⟩
        have y := e6 j (by omega)
        rw [show m + 1 + 1 + j = m + (2 + j) by omega] at y
        rw [ej, e3 (2 + j) (by omega), h2 j hj, y]
theorem b_ord0 {m : Nat} (hm : m + 2 ≤ 61) {Ss Te : Nat → Int32} (hs : SR m Ss Te) :
    S_X4_writeText [112, 116] Ss (nI m) ∧ S_X6_sayOrder (0 : Int64) (nI m) Te ∧ ∃ (Ss' Te' : Nat → Int32), f_X4_writeText [112, 116] Ss (nI m) = (Ss', nI (m + 2)) ∧ f_X6_sayOrder (0 : Int64) (nI m) Te = (nI (m + 2), Te') ∧ SR (m + 2) Ss' Te' := by
  obtain ⟨s1, s2, x, Ss', Te', e1, e2, e3⟩ := b_ord1 (o := 0) (bs := [112, 116]) (by omega) rfl (by decide) (a := 112) (b := 116) rfl rfl (fun j hj => absurd hj (by omega)) (m := m) (by omega) hs
  have s2 : SL_X6_sayOrder_36 5 (0 : Int32) (nI (m + 1 + 1)) (upd (upd Te m 112) (m + 1) 116) (0 : Int64) := s2
  have e2 : L_X6_sayOrder_36 5 (0 : Int32) (nI (m + 1 + 1)) (upd (upd Te m 112) (m + 1) 116) (0 : Int64) = (x, nI (m + 2), Te') := e2
  have a0 := sayN (m := m) (by omega) 112 Te
  have a1 := sayN (m := m + 1) (by omega) 116 (upd Te m 112)
  refine ⟨s1, ?_, Ss', Te', e1, ?_, e3⟩
  · unfold S_X6_sayOrder
    refine ⟨fun _ => ⟨⟨vin (by omega) (by omega), True.intro⟩, fun u0 h0 => ?_⟩, fun z => absurd rfl z⟩
    rw [h0, a0]
    refine ⟨⟨vin (n := m + 1) (by omega) (by omega), True.intro⟩, fun u1 h1 => ?_⟩
    rw [h1, a1]
    exact ⟨s2, fun _ _ => True.intro⟩
  · unfold f_X6_sayOrder
    rw [if_pos rfl]
    simp only [a0, a1, e2]
theorem b_ord2 {o : Nat} {bs : List Int32} (ho : o ≤ 3) (hp : 1 ≤ o) (hl : bs.length = 2 + o) (hb : ∀ j, j < bs.length → f_J0_charAt_5068e bs (nI j) = bs.getD j 0) (h0 : bs.getD 0 0 = 102) (h1 : bs.getD 1 0 = 105) (h2 : ∀ j, j < o → bs.getD (2 + j) 0 = 108) {m : Nat} (hm : m + (2 + o) ≤ 61) {Ss Te : Nat → Int32} (hs : SR m Ss Te) :
    S_X4_writeText bs Ss (nI m) ∧ S_X6_sayOrder (lN o) (nI m) Te ∧ ∃ (Ss' Te' : Nat → Int32), f_X4_writeText bs Ss (nI m) = (Ss', nI (m + (2 + o))) ∧ f_X6_sayOrder (lN o) (nI m) Te = (nI (m + (2 + o)), Te') ∧ SR (m + (2 + o)) Ss' Te' := by
  obtain ⟨s1, s2, x, Ss', Te', e1, e2, e3⟩ := b_ord1 ho hl hb h0 h1 h2 (m := m) hm hs
  have a0 := sayN (m := m) (by omega) 102 Te
  have a1 := sayN (m := m + 1) (by omega) 105 (upd Te m 102)
  have y : ¬ lN o = (0 : Int64) := fun z => by
    have := (lN_eq (a := o) (b := 0) (by omega) (by omega)).mp z
    omega
  refine ⟨s1, ?_, Ss', Te', e1, ?_, e3⟩
  · unfold S_X6_sayOrder
    refine ⟨fun z => absurd z y, fun _ => ⟨⟨vin (by omega) (by omega), True.intro⟩, fun u0 h0 => ?_⟩⟩
    rw [h0, a0]
    refine ⟨⟨vin (n := m + 1) (by omega) (by omega), True.intro⟩, fun u1 h1 => ?_⟩
    rw [h1, a1]
    exact ⟨s2, fun _ _ => True.intro⟩
  · unfold f_X6_sayOrder
    rw [if_neg y]
    simp only [a0, a1, e2]
theorem b_order {o : Nat} (ho : o ≤ 3) {m : Nat} (hm : m + (2 + o) ≤ 61) {Ss Te : Nat → Int32} (hs : SR m Ss Te) :
    S_X4_writeText (sel4 (lN o) [112, 116] [102, 105, 108] [102, 105, 108, 108] [102, 105, 108, 108, 108]) Ss (nI m) ∧ S_X6_sayOrder (lN o) (nI m) Te ∧ ∃ (Ss' Te' : Nat → Int32), f_X4_writeText (sel4 (lN o) [112, 116] [102, 105, 108] [102, 105, 108, 108] [102, 105, 108, 108, 108]) Ss (nI m) = (Ss', nI (m + (2 + o))) ∧ f_X6_sayOrder (lN o) (nI m) Te = (nI (m + (2 + o)), Te') ∧ SR (m + (2 + o)) Ss' Te' := by
  rcases (show o = 0 ∨ o = 1 ∨ o = 2 ∨ o = 3 by omega) with rfl | rfl | rfl | rfl
  · exact b_ord0 (m := m) hm hs
  · exact b_ord2 (o := 1) (bs := [102, 105, 108]) ho (by omega) rfl (by decide) rfl rfl (by decide) hm hs
  · exact b_ord2 (o := 2) (bs := [102, 105, 108, 108]) ho (by omega) rfl (by decide) rfl rfl (by decide) hm hs
  · exact b_ord2 (o := 3) (bs := [102, 105, 108, 108, 108]) ho (by omega) rfl (by decide) rfl rfl (by decide) hm hs

end
section
/-! signs: glue -/
def wordOk (bs : List Int32) (w : Int32) : Prop := bs.length ≤ 7 ∧ ∀ (m : Nat), m + bs.length ≤ 61 → ∀ (Ss Te : Nat → Int32), SR m Ss Te →
    S_X4_writeText bs Ss (nI m) ∧ S_X6_sayWord w (nI m) Te ∧ ∃ Ss' Te', f_X4_writeText bs Ss (nI m) = (Ss', nI (m + bs.length)) ∧ f_X6_sayWord w (nI m) Te = (nI (m + bs.length), Te') ∧ SR (m + bs.length) Ss' Te'
theorem ok_plus : wordOk [32, 112, 108, 117, 115, 32] 1 := ⟨by decide, fun _ hm _ _ hs => b_plus hm hs⟩
theorem ok_minus : wordOk [32, 109, 105, 110, 117, 115, 32] 0 := ⟨by decide, fun _ hm _ _ hs => b_minus hm hs⟩
/-- a stretch or shrink that isn't 0: the class's writeFlexible against the reference's three says -/
theorem b_fx {bs : List Int32} {w : Int32} (hw : wordOk bs w) {h : Nat} (hh : h + 1 < 928) {Bc : Nat → Int64} (hxn : ¬ Bc h = 0) (hb1 : -1073741824 < (Bc h).toInt) (hb2 : (Bc h).toInt < 1073741824) {o : Nat} (ho : o ≤ 3) (hy : Bc (h + 1) = lN o) {m : Nat} (hm : m + (bs.length + 17) ≤ 61) {Ss Te : Nat → Int32} (hs : SR m Ss Te) (Bz : Int32) (Bk : Nat → Int32) :
    S_X5_writeFlexible bs (nI h) Bc Ss (nI m) ∧ S_X6_sayWord w (nI m) Te ∧ ∃ (k m1 m2 : Nat) (S3 T1 T2 T3 B2 : Nat → Int32), k ≤ bs.length + 17 ∧ f_X5_writeFlexible bs (nI h) Bc Ss (nI m) = (S3, nI (m + k)) ∧ f_X6_sayWord w (nI m) Te = (nI m1, T1) ∧ S_X6_sayLength (Bc h) (nI m1) T1 Bz Bk ∧ f_X6_sayLength (Bc h) (nI m1) T1 Bz Bk = (nI m2, T2, 0, B2) ∧ S_X6_sayOrder (lN o) (nI m2) T2 ∧ f_X6_sayOrder (lN o) (nI m2) T2 = (nI (m + k), T3) ∧ SR (m + k) S3 T3 := by
  obtain ⟨s1, s2, S1, T1, e1, e2, r1⟩ := hw.2 m (by omega) Ss Te hs
  obtain ⟨s3, s4, c, S2, T2, B2, hc, e3, e4, r2⟩ := b_len hb1 hb2 (m := m + bs.length) (by omega) r1 Bz Bk
  obtain ⟨s5, s6, S3, T3, e5, e6, r3⟩ := b_order ho (m := m + bs.length + c) (by omega) r2
  have em : m + bs.length + c + (2 + o) = m + (bs.length + c + (2 + o)) := by omega
  rw [em] at e5 e6 r3
  have ch : (nI h).toNatClampNeg = h := clN (by omega)
  have eh : nI h + (1 : Int32) = nI (h + 1) := (nI_succ h).symm
  have ch2 : (nI (h + 1)).toNatClampNeg = h + 1 := clN (by omega)
  refine ⟨?_, s2, bs.length + c + (2 + o), m + bs.length, m + bs.length + c, S3, T1, T2, T3, B2, by omega, ?_, e2, s4, e4, s6, e6, r3⟩
  · unfold S_X5_writeFlexible
    rw [eh, ch, ch2, hy]
    refine ⟨vin (by omega) (by omega), fun z => absurd z hxn, fun _ => ⟨s1, fun u1 h1 => ?_⟩⟩
    rw [h1, e1]
    refine ⟨vin (by omega) (by omega), s3, fun u2 h2 => ?_⟩
    rw [h2, e3]
    exact ⟨vin (by omega) (by omega), s5, fun _ _ => True.intro⟩
  · unfold f_X5_writeFlexible
    rw [eh, ch, ch2, hy, if_neg hxn]
    simp only [e1, e3, e5]
/-- one turn of the reference's loop against the class's writeFlexible -/
theorem b_turn {bs : List Int32} {i : Nat} (hi : i = 1 ∧ wordOk bs 1 ∨ i = 3 ∧ wordOk bs 0) {h c : Nat} (hh : h + i + 1 < 928) (hc : c + i + 1 < 3360) {Bc Ce : Nat → Int64} (hx : Bc (h + i) = Ce (c + i)) (hb1 : -1073741824 < (Ce (c + i)).toInt) (hb2 : (Ce (c + i)).toInt < 1073741824) {o : Nat} (ho : o ≤ 3) (hy : Bc (h + i + 1) = lN o) (hy2 : Ce (c + i + 1) = lN o) {m : Nat} (hm : m + (bs.length + 17) ≤ 61) {Ss Te : Nat → Int32} (hs : SR m Ss Te) (n : Nat) (Bz : Int32) (Bk : Nat → Int32) :
    S_X5_writeFlexible bs (nI (h + i)) Bc Ss (nI m) ∧ ∃ (k : Nat) (S3 T3 B3 : Nat → Int32) (z3 : Int32), k ≤ bs.length + 17 ∧ f_X5_writeFlexible bs (nI (h + i)) Bc Ss (nI m) = (S3, nI (m + k)) ∧ SR (m + k) S3 T3 ∧
      (SL_X6_sayGlue_17 n (nI (i + 2)) (nI (m + k)) T3 z3 B3 (nI c) Ce → SL_X6_sayGlue_17 (n + 1) (nI i) (nI m) Te Bz Bk (nI c) Ce) ∧ L_X6_sayGlue_17 (n + 1) (nI i) (nI m) Te Bz Bk (nI c) Ce = L_X6_sayGlue_17 n (nI (i + 2)) (nI (m + k)) T3 z3 B3 (nI c) Ce := by
  have hi3 : i ≤ 3 := by rcases hi with z | z <;> omega
  have n4 : ¬ (4 : Int32) ≤ nI i := fun z => by
    have := (nI_leI (a := 4) (b := i) (by omega) (by omega)).mp z
    omega
  have ec : nI c + nI i = nI (c + i) := nI_add c i
  have cc : (nI (c + i)).toNatClampNeg = c + i := clN (by omega)
  have ec2 : nI (c + i) + (1 : Int32) = nI (c + i + 1) := (nI_succ _).symm
  have cc2 : (nI (c + i + 1)).toNatClampNeg = c + i + 1 := clN (by omega)
  have ei : nI i + (2 : Int32) = nI (i + 2) := nI_add i 2
  have ei2 : nI i + 2 = nI (i + 2) := nI_add i 2
  have ch : (nI (h + i)).toNatClampNeg = h + i := clN (by omega)
  have v1 : vp_in (nI (c + i)) 3360 := vin (by omega) (by omega)
  have v2 : vp_in (nI (c + i + 1)) 3360 := vin (by omega) (by omega)
  rw [SL_X6_sayGlue_17, L_X6_sayGlue_17, if_neg n4, ec, cc, ec2, cc2, hy2, ei]
  by_cases h0 : Ce (c + i) = 0
  · rw [if_pos h0]
    refine ⟨?_, 0, Ss, Te, Bk, Bz, by omega, ?_, hs, fun q => ⟨fun z => absurd z n4, fun _ => ⟨v1, fun _ => q, fun z => absurd h0 z⟩⟩, rfl⟩
    · unfold S_X5_writeFlexible
      rw [ch, hx]
      exact ⟨vin (by omega) (by omega), fun _ => True.intro, fun z => absurd h0 z⟩
    · unfold f_X5_writeFlexible
      rw [ch, hx, if_pos h0]
      rfl
  · rw [if_neg h0]
    rcases hi with ⟨rfl, hw⟩ | ⟨rfl, hw⟩
    · obtain ⟨s1, s2, k, m1, m2, S3, T1, T2, T3, B2, hk, e1, e2, s3, e3, s4, e4, r⟩ := b_fx hw (h := h + 1) (by omega) (Bc := Bc) (by rw [hx]; exact h0) (by rw [hx]; exact hb1) (by rw [hx]; exact hb2) ho hy hm hs Bz Bk
      rw [hx] at s3 e3
      have i1 : nI 1 = (1 : Int32) := rfl
      refine ⟨s1, k, S3, T3, B2, 0, hk, e1, r, fun q => ⟨fun z => absurd z n4, fun _ => ⟨v1, fun z => absurd z h0, fun _ => ⟨fun _ => ⟨s2, fun u1 h1 => ?_⟩, fun z => absurd i1 z⟩⟩⟩, ?_⟩
      · rw [h1, e2]
        refine ⟨v1, s3, fun u2 h2 => ?_⟩
        rw [h2, e3]
        refine ⟨v2, s4, fun u3 h3 => ?_⟩
        rw [h3, e4]
        exact q
      · rw [if_pos i1]
        simp only [e2, e3, e4]
    · obtain ⟨s1, s2, k, m1, m2, S3, T1, T2, T3, B2, hk, e1, e2, s3, e3, s4, e4, r⟩ := b_fx hw (h := h + 3) (by omega) (Bc := Bc) (by rw [hx]; exact h0) (by rw [hx]; exact hb1) (by rw [hx]; exact hb2) ho hy hm hs Bz Bk
      rw [hx] at s3 e3
      have i1 : ¬ nI 3 = (1 : Int32) := by decide
      refine ⟨s1, k, S3, T3, B2, 0, hk, e1, r, fun q => ⟨fun z => absurd z n4, fun _ => ⟨v1, fun z => absurd z h0, fun _ => ⟨fun z => absurd z i1, fun _ => ⟨s2, fun u1 h1 => ?_⟩⟩⟩⟩, ?_⟩
      · rw [h1, e2]
        refine ⟨v1, s3, fun u2 h2 => ?_⟩
        rw [h2, e3]
        refine ⟨v2, s4, fun u3 h3 => ?_⟩
        rw [h3, e4]
        exact q
      · rw [if_neg i1]
        simp only [e2, e3, e4]
theorem ordN {x : Int64} (h1 : 0 ≤ x.toInt) (h2 : x.toInt ≤ 3) : ∃ o : Nat, o ≤ 3 ∧ x = lN o := by
  refine ⟨x.toInt.toNat, by omega, ?_⟩
  apply Int64.toInt_inj.mp
  rw [lN_toInt (by omega)]
  omega
theorem b_glue {h c : Nat} (hh : h + 5 ≤ 928) (hc : c + 5 ≤ 3360) {Bc Ce : Nat → Int64} (hv : okV 2 (fun j => Ce (c + j))) (he : ∀ j, j < 5 → Bc (h + j) = Ce (c + j)) (Ss Te : Nat → Int32) (Bz : Int32) (Bk : Nat → Int32) :
    S_X5_writeGlue (nI h) Bc Ss (0 : Int32) ∧ S_X6_sayGlue (nI c) Ce (0 : Int32) Te Bz Bk ∧ ∃ (k : Nat) (Ss' Te' Bk' : Nat → Int32) (z : Int32), k ≤ 61 ∧ f_X5_writeGlue (nI h) Bc Ss (0 : Int32) = (Ss', nI k) ∧ f_X6_sayGlue (nI c) Ce (0 : Int32) Te Bz Bk = (nI k, Te', z, Bk') ∧ SR k Ss' Te' := by
  obtain ⟨b0, b1, b3, b2, b4⟩ := hv.2.2.1 rfl
  have b0 : -1073741823 ≤ (Ce c).toInt ∧ (Ce c).toInt ≤ 1073741823 := b0
  have b1 : -1073741823 ≤ (Ce (c + 1)).toInt ∧ (Ce (c + 1)).toInt ≤ 1073741823 := b1
  have b3 : -1073741823 ≤ (Ce (c + 3)).toInt ∧ (Ce (c + 3)).toInt ≤ 1073741823 := b3
  have b2 : 0 ≤ (Ce (c + 2)).toInt ∧ (Ce (c + 2)).toInt ≤ 3 := b2
  have b4 : 0 ≤ (Ce (c + 4)).toInt ∧ (Ce (c + 4)).toInt ≤ 3 := b4
  obtain ⟨o1, ho1, eo1⟩ := ordN b2.1 b2.2
  obtain ⟨o2, ho2, eo2⟩ := ordN b4.1 b4.2
  have he0 : Bc h = Ce c := he 0 (by omega)
  have ch : (nI h).toNatClampNeg = h := clN (by omega)
  have cc : (nI c).toNatClampNeg = c := clN (by omega)
  have eh1 : nI h + (1 : Int32) = nI (h + 1) := (nI_succ h).symm
  have eh3 : nI h + (3 : Int32) = nI (h + 3) := nI_add h 3
  obtain ⟨s1, s2, c1, S1, T1, B1, hc1, e1, e2, r1⟩ := b_len (a := Ce c) (by omega) (by omega) (m := 0) (by omega) (Ss := Ss) (Te := Te) (fun q hq => absurd hq (by omega)) Bz Bk
  obtain ⟨s3, s4, S2, T2, e3, e4, r2⟩ := b_ord0 (m := 0 + c1) (by omega) r1
  obtain ⟨s5, k1, S3, T3, B3, z3, hk1, e5, r3, q3, w3⟩ := b_turn (i := 1) (Or.inl ⟨rfl, ok_plus⟩) (h := h) (c := c) (by omega) (by omega) (he 1 (by omega)) (by omega) (by omega) ho1 ((he 2 (by omega)).trans eo1) eo1 (m := 0 + c1 + 2) (by simp only [List.length_cons, List.length_nil]; omega) r2 2 0 B1
  have hk1 : k1 ≤ 6 + 17 := hk1
  obtain ⟨s6, k2, S4, T4, B4, z4, hk2, e6, r4, q4, w4⟩ := b_turn (i := 3) (Or.inr ⟨rfl, ok_minus⟩) (h := h) (c := c) (by omega) (by omega) (he 3 (by omega)) (by omega) (by omega) ho2 ((he 4 (by omega)).trans eo2) eo2 (m := 0 + c1 + 2 + k1) (by simp only [List.length_cons, List.length_nil]; omega) r3 1 z3 B3
  have hk2 : k2 ≤ 7 + 17 := hk2
  have w5 : L_X6_sayGlue_17 1 (nI (3 + 2)) (nI (0 + c1 + 2 + k1 + k2)) T4 z4 B4 (nI c) Ce = (nI (3 + 2), nI (0 + c1 + 2 + k1 + k2), T4, z4, B4) := by
    rw [L_X6_sayGlue_17, if_pos (by decide)]
  have q5 : SL_X6_sayGlue_17 1 (nI (3 + 2)) (nI (0 + c1 + 2 + k1 + k2)) T4 z4 B4 (nI c) Ce := by
    rw [SL_X6_sayGlue_17]
    exact ⟨fun _ => True.intro, fun z => absurd (by decide) z⟩
  have q6 := q3 (q4 q5)
  have w6 := w3.trans (w4.trans w5)
  have q6 : SL_X6_sayGlue_17 3 (1 : Int32) (nI (0 + c1 + 2)) T2 0 B1 (nI c) Ce := q6
  have w6 : L_X6_sayGlue_17 3 (1 : Int32) (nI (0 + c1 + 2)) T2 0 B1 (nI c) Ce = (nI (3 + 2), nI (0 + c1 + 2 + k1 + k2), T4, z4, B4) := w6
  have s1 : S_X4_writeLength (Ce c) Ss (0 : Int32) := s1
  have s2 : S_X6_sayLength (Ce c) (0 : Int32) Te Bz Bk := s2
  have e1 : f_X4_writeLength (Ce c) Ss (0 : Int32) = (S1, nI (0 + c1)) := e1
  have e2 : f_X6_sayLength (Ce c) (0 : Int32) Te Bz Bk = (nI (0 + c1), T1, 0, B1) := e2
  refine ⟨?_, ?_, 0 + c1 + 2 + k1 + k2, S4, T4, B4, z4, by omega, ?_, ?_, r4⟩
  · unfold S_X5_writeGlue
    rw [ch, he0, eh1, eh3]
    refine ⟨vin (by omega) (by omega), s1, fun u1 h1 => ?_⟩
    rw [h1, e1]
    refine ⟨s3, fun u2 h2 => ?_⟩
    rw [h2, e3]
    refine ⟨s5, fun u3 h3 => ?_⟩
    rw [h3, e5]
    exact ⟨s6, fun _ _ => True.intro⟩
  · unfold S_X6_sayGlue
    rw [cc]
    refine ⟨vin (by omega) (by omega), s2, fun u1 h1 => ?_⟩
    rw [h1, e2]
    refine ⟨s4, fun u2 h2 => ?_⟩
    rw [h2, e4]
    exact ⟨q6, fun _ _ => True.intro⟩
  · unfold f_X5_writeGlue
    rw [ch, he0, eh1, eh3]
    simp only [e1, e3, e5, e6]
  · unfold f_X6_sayGlue
    rw [cc]
    simp only [e2, e4, w6]

end
section
/-! shown -/
def sg (a2 Si : Int32) (T : Nat → Int32) : Int32 := if a2 < 0 then -1 else if Si ≤ a2 then -1 else T a2.toNatClampNeg
theorem sg_pair {α : Type} (a2 Si v : Int32) (X : α) : (if a2 < 0 then ((-1 : Int32), (0 : Int32), X) else (if Si ≤ a2 then ((-1 : Int32), (0 : Int32), X) else (v, (0 : Int32), X))) = ((if a2 < 0 then (-1 : Int32) else if Si ≤ a2 then -1 else v), (0 : Int32), X) := by
  by_cases h : a2 < 0
  · rw [if_pos h, if_pos h]
  · rw [if_neg h, if_neg h]
    by_cases h2 : Si ≤ a2
    · rw [if_pos h2, if_pos h2]
    · rw [if_neg h2, if_neg h2]
theorem sg_in {k : Nat} (hk : k ≤ 61) {a2 : Int32} (h : ¬ a2 < 0) (h2 : ¬ nI k ≤ a2) : ∃ i, i < k ∧ a2 = nI i := by
  have h0 : (0 : Int32).toInt = 0 := rfl
  rw [i32lt] at h
  rw [i32le, nI_toInt (by omega)] at h2
  refine ⟨a2.toInt.toNat, by omega, ?_⟩
  apply Int32.toInt_inj.mp
  rw [nI_toInt (by omega)]
  omega
theorem sg_S {k : Nat} (hk : k ≤ 61) (a2 : Int32) : (a2 < 0 → True) ∧ (¬ a2 < 0 → ((nI k ≤ a2 → True) ∧ (¬ nI k ≤ a2 → (vp_in a2 120 ∧ True)))) := by
  refine ⟨fun _ => True.intro, fun h => ⟨fun _ => True.intro, fun h2 => ?_⟩⟩
  obtain ⟨i, hi, rfl⟩ := sg_in hk h h2
  exact ⟨vin (by omega) (by omega), True.intro⟩
theorem sg_X4 {k : Nat} (hk : k ≤ 61) {S T : Nat → Int32} (hs : SR k S T) (a2 : Int32) : S_X4_signAt a2 S (nI k) ∧ f_X4_signAt a2 S (nI k) = sg a2 (nI k) T := by
  unfold S_X4_signAt f_X4_signAt sg
  by_cases h : a2 < 0
  · rw [if_pos h, if_pos h]
    exact ⟨⟨fun _ => True.intro, fun z => absurd h z⟩, rfl⟩
  · rw [if_neg h, if_neg h]
    by_cases h2 : nI k ≤ a2
    · rw [if_pos h2, if_pos h2]
      exact ⟨⟨fun _ => True.intro, fun _ => ⟨fun _ => True.intro, fun z => absurd h2 z⟩⟩, rfl⟩
    · rw [if_neg h2, if_neg h2]
      obtain ⟨i, hi, rfl⟩ := sg_in hk h h2
      have y : nI i < (61 : Int32) := (nI_ltI (b := 61) (by omega) (by omega)).mpr (by omega)
      rw [if_pos y, clN (n := i) (by omega), hs i hi]
      exact ⟨⟨fun _ => True.intro, fun _ => ⟨fun _ => True.intro, fun _ => ⟨fun _ => ⟨vin (by omega) (by omega), True.intro⟩, fun _ => True.intro⟩⟩⟩, rfl⟩
theorem r_shown {Bc Ce : Nat → Int64} (hR : RV Bc Ce) (a0 a1 a2 Th Sm Si Bz : Int32) (Ss Te Bk : Nat → Int32) :
    S_X5_shown a0 a1 a2 Bc Ss Sm ∧ S_X6_shown a0 a1 a2 Th Ce Si Te Bz Bk ∧ ∃ (o : Nat) (r r' th : Int32) (Ss' : Nat → Int32) (Sm' Si' : Int32) (Te' : Nat → Int32) (Bz' : Int32) (Bk' : Nat → Int32), f_X5_shown a0 a1 a2 Bc Ss Sm = (o, r, Ss', Sm') ∧ f_X6_shown a0 a1 a2 Th Ce Si Te Bz Bk = (r', th, Si', Te', Bz', Bk') ∧ (o = 0 ∨ o = 1 ∨ o = 2) ∧ th = k_L_shown o ∧ (o = 0 → r = r') := by
  rcases kin4 a0 with ⟨k, hk, rfl, e1, e2⟩ | ⟨e1, e2⟩
  · rcases reg a1 with ⟨r, hr, rfl, e3, e4⟩ | ⟨e3, e4⟩
    · have hw := wd_le hk
      have hl := hm_le hk hr
      have x1 : (21 : Int32) * ((32 : Int32) * nI k + nI r) = nI (21 * (32 * k + r)) := by
        rw [show (32 : Int32) = nI 32 from rfl, show (21 : Int32) = nI 21 from rfl, pk_mul, nI_add, pk_mul]
      have c1 : (nI (hm k + r * wd k)).toNatClampNeg = hm k + r * wd k := clN (by omega)
      have c2 : (nI (21 * (32 * k + r))).toNatClampNeg = 21 * (32 * k + r) := clN (by omega)
      have ec : f_X4_clear Sm = 0 := rfl
      obtain ⟨hv, he⟩ := hR k r hk hr
      have he0 : Bc (hm k + r * wd k) = Ce (21 * (32 * k + r)) := he 0 (by omega)
      -- what both write
      have main : S_X5_writeRegister (nI k) (nI (hm k + r * wd k)) Bc Ss 0 ∧ S_X6_shown (nI k) (nI r) a2 Th Ce Si Te Bz Bk ∧ ∃ (n : Nat) (S' T' B' : Nat → Int32) (z' : Int32), n ≤ 61 ∧ SR n S' T' ∧ f_X5_writeRegister (nI k) (nI (hm k + r * wd k)) Bc Ss 0 = (S', nI n) ∧ f_X6_shown (nI k) (nI r) a2 Th Ce Si Te Bz Bk = (sg a2 (nI n) T', 0, nI n, T', z', B') := by
        unfold S_X5_writeRegister f_X5_writeRegister S_X6_shown f_X6_shown
        rw [e2, e4, if_neg ne10, if_neg ne10, x1, c1, c2, he0]
        have vh : vp_in (nI (hm k + r * wd k)) 928 := vin (by omega) (by omega)
        have vc : vp_in (nI (21 * (32 * k + r))) 3360 := vin (by omega) (by omega)
        rcases (show k = 0 ∨ k = 1 ∨ k = 2 ∨ k = 3 ∨ k = 4 by omega) with rfl | rfl | rfl | rfl | rfl
        · obtain ⟨b1, b2⟩ := hv.1 rfl
          have b1 : -2147483647 ≤ (Ce (21 * (32 * 0 + r))).toInt := b1
          have b2 : (Ce (21 * (32 * 0 + r))).toInt ≤ 2147483647 := b2
          obtain ⟨s1, s2, c, S', T', B', hc, w1, w2, w3⟩ := b_num (a := Ce (21 * (32 * 0 + r))) (by omega) (by omega) (m := 0) (by omega) (Ss := Ss) (Te := Te) (fun q hq => absurd hq (by omega)) Bz Bk
          rw [Nat.zero_add c] at w1 w2 w3
          have s1 : S_X4_writeNumber (Ce (21 * (32 * 0 + r))) Ss (0 : Int32) := s1
          have s2 : S_X6_sayNumber (Ce (21 * (32 * 0 + r))) (0 : Int32) Te Bz Bk := s2
          have w1 : f_X4_writeNumber (Ce (21 * (32 * 0 + r))) Ss (0 : Int32) = (S', nI c) := w1
          have w2 : f_X6_sayNumber (Ce (21 * (32 * 0 + r))) (0 : Int32) Te Bz Bk = (nI c, T', 0, B') := w2
          have n0 : nI 0 = 0 := rfl
          have n1 : ¬ nI 0 = (1 : Int32) := by decide
          have n2 : ¬ nI 0 = (2 : Int32) := by decide
          have n3 : ¬ nI 0 = (3 : Int32) := by decide
          have n4 : ¬ nI 0 = (4 : Int32) := by decide
          refine ⟨⟨fun _ => ⟨vh, s1, fun _ _ => True.intro⟩, fun z => absurd n0 z⟩, ⟨fun z => absurd z ne10, fun _ => ⟨fun z => absurd z ne10, fun _ => ⟨fun z => absurd z n1, fun _ => ⟨fun z => absurd z n2, fun _ => ⟨fun z => absurd z n3, fun _ => ⟨fun z => absurd z n4, fun _ => ⟨vc, s2, fun u hu => ?_⟩⟩⟩⟩⟩⟩⟩, c, S', T', B', 0, by omega, w3, ?_, ?_⟩
          · rw [hu, w2]; exact sg_S (by omega) a2
          · rw [if_pos n0]; simp only [w1]
          · rw [if_neg n1, if_neg n2, if_neg n3, if_neg n4]; simp only [w2]; exact sg_pair a2 (nI c) _ _
        · obtain ⟨b1, b2⟩ := hv.2.1 rfl
          have b1 : -1073741823 ≤ (Ce (21 * (32 * 1 + r))).toInt := b1
          have b2 : (Ce (21 * (32 * 1 + r))).toInt ≤ 1073741823 := b2
          obtain ⟨s1, s2, c, S', T', B', hc, w1, w2, w3⟩ := b_len (a := Ce (21 * (32 * 1 + r))) (by omega) (by omega) (m := 0) (by omega) (Ss := Ss) (Te := Te) (fun q hq => absurd hq (by omega)) Bz Bk
          rw [Nat.zero_add c] at w1 w2 w3
          have s1 : S_X4_writeLength (Ce (21 * (32 * 1 + r))) Ss (0 : Int32) := s1
          have s2 : S_X6_sayLength (Ce (21 * (32 * 1 + r))) (0 : Int32) Te Bz Bk := s2
          have w1 : f_X4_writeLength (Ce (21 * (32 * 1 + r))) Ss (0 : Int32) = (S', nI c) := w1
          have w2 : f_X6_sayLength (Ce (21 * (32 * 1 + r))) (0 : Int32) Te Bz Bk = (nI c, T', 0, B') := w2
          have n0 : ¬ nI 1 = 0 := by decide
          have n1 : nI 1 = (1 : Int32) := rfl
          refine ⟨⟨fun z => absurd z n0, fun _ => ⟨fun _ => ⟨vh, s1, fun _ _ => True.intro⟩, fun z => absurd n1 z⟩⟩, ⟨fun z => absurd z ne10, fun _ => ⟨fun z => absurd z ne10, fun _ => ⟨fun _ => ⟨vc, s2, fun u hu => ?_⟩, fun z => absurd n1 z⟩⟩⟩, c, S', T', B', 0, by omega, w3, ?_, ?_⟩
          · rw [hu, w2]; exact sg_S (by omega) a2
          · rw [if_neg n0, if_pos n1]; simp only [w1]
          · rw [if_pos n1]; simp only [w2]; exact sg_pair a2 (nI c) _ _
        · obtain ⟨s1, s2, c, S', T', B', z', hc, w1, w2, w3⟩ := b_glue (h := hm 2 + r * wd 2) (c := 21 * (32 * 2 + r)) (by have : wd 2 = 5 := rfl; omega) (by omega) (Bc := Bc) (Ce := Ce) hv (fun j hj => he j hj) Ss Te Bz Bk
          have n0 : ¬ nI 2 = 0 := by decide
          have n1 : ¬ nI 2 = (1 : Int32) := by decide
          have n2 : nI 2 = (2 : Int32) := rfl
          refine ⟨⟨fun z => absurd z n0, fun _ => ⟨fun z => absurd z n1, fun _ => ⟨fun _ => ⟨s1, fun _ _ => True.intro⟩, fun z => absurd n2 z⟩⟩⟩, ⟨fun z => absurd z ne10, fun _ => ⟨fun z => absurd z ne10, fun _ => ⟨fun z => absurd z n1, fun _ => ⟨fun _ => ⟨s2, fun u hu => ?_⟩, fun z => absurd n2 z⟩⟩⟩⟩, c, S', T', B', z', by omega, w3, ?_, ?_⟩
          · rw [hu, w2]; exact sg_S (by omega) a2
          · rw [if_neg n0, if_neg n1, if_pos n2]; simp only [w1]
          · rw [if_neg n1, if_pos n2]; simp only [w2]; exact sg_pair a2 (nI c) _ _
        · obtain ⟨N, hN, eN⟩ := hv.2.2.2.1 rfl
          have eN : Ce (21 * (32 * 3 + r)) = lN N := eN
          have hE : ∀ j, j < 20 → Bc (hm 3 + r * wd 3 + 1 + j) = Ce (21 * (32 * 3 + r) + 1 + j) := fun j hj => by
            have q := he (1 + j) (by have : wd 3 = 21 := rfl; omega)
            rw [← Nat.add_assoc, ← Nat.add_assoc] at q
            exact q
          obtain ⟨s1, s2, x, y, c, S', T', hc, w1, w2, w3⟩ := L_row (h := hm 3 + r * wd 3) (c := 21 * (32 * 3 + r)) (N := N) (Bc := Bc) (Ce := Ce) (by have : wd 3 = 21 := rfl; omega) (by omega) hN (he0.trans eN) eN hE 21 0 0 Ss Te (by omega) (by omega) (by omega) (fun q hq => absurd hq (by omega))
          rw [Nat.zero_add c] at w1 w2 w3 hc
          have s1 : SL_X5_writeRow_2 21 (0 : Int32) Ss (0 : Int32) (nI (hm 3 + r * wd 3)) Bc := s1
          have s2 : SL_X6_shown_93 22 (0 : Int32) (0 : Int32) Te (nI (21 * (32 * 3 + r))) Ce := s2
          have w1 : L_X5_writeRow_2 21 (0 : Int32) Ss (0 : Int32) (nI (hm 3 + r * wd 3)) Bc = (x, S', nI c) := w1
          have w2 : L_X6_shown_93 22 (0 : Int32) (0 : Int32) Te (nI (21 * (32 * 3 + r))) Ce = (y, nI c, T') := w2
          have n0 : ¬ nI 3 = 0 := by decide
          have n1 : ¬ nI 3 = (1 : Int32) := by decide
          have n2 : ¬ nI 3 = (2 : Int32) := by decide
          have n3 : nI 3 = (3 : Int32) := rfl
          refine ⟨⟨fun z => absurd z n0, fun _ => ⟨fun z => absurd z n1, fun _ => ⟨fun z => absurd z n2, fun _ => ⟨fun _ => ⟨⟨s1, fun _ _ => True.intro⟩, fun _ _ => True.intro⟩, fun z => absurd n3 z⟩⟩⟩⟩, ⟨fun z => absurd z ne10, fun _ => ⟨fun z => absurd z ne10, fun _ => ⟨fun z => absurd z n1, fun _ => ⟨fun z => absurd z n2, fun _ => ⟨fun _ => ⟨s2, fun u hu => ?_⟩, fun z => absurd n3 z⟩⟩⟩⟩⟩, c, S', T', Bk, Bz, hc, w3, ?_, ?_⟩
          · rw [hu, w2]; exact sg_S hc a2
          · rw [if_neg n0, if_neg n1, if_neg n2, if_pos n3]; unfold f_X5_writeRow; simp only [w1]
          · rw [if_neg n1, if_neg n2, if_pos n3]; simp only [w2]; exact sg_pair a2 (nI c) _ _
        · obtain ⟨b1, b2⟩ := hv.2.2.2.2 rfl
          have b1 : -1 ≤ (Ce (21 * (32 * 4 + r))).toInt := b1
          have b2 : (Ce (21 * (32 * 4 + r))).toInt ≤ 999 := b2
          have n0 : ¬ nI 4 = 0 := by decide
          have n1 : ¬ nI 4 = (1 : Int32) := by decide
          have n2 : ¬ nI 4 = (2 : Int32) := by decide
          have n3 : ¬ nI 4 = (3 : Int32) := by decide
          have n4 : nI 4 = (4 : Int32) := rfl
          have l0 : (0 : Int64).toInt = 0 := rfl
          have lm : (-1 : Int64).toInt = -1 := rfl
          by_cases hp : (0 : Int64) ≤ Ce (21 * (32 * 4 + r))
          · have hq : ¬ Ce (21 * (32 * 4 + r)) = (-1 : Int64) := fun z => by
              rw [z, i64le, l0, lm] at hp
              omega
            obtain ⟨s1, s2, c, S', T', B', hc, w1, w2, w3⟩ := b_num (a := Ce (21 * (32 * 4 + r))) (by omega) (by omega) (m := 0) (by omega) (Ss := Ss) (Te := Te) (fun q hq => absurd hq (by omega)) Bz Bk
            rw [Nat.zero_add c] at w1 w2 w3
            have s1 : S_X4_writeNumber (Ce (21 * (32 * 4 + r))) Ss (0 : Int32) := s1
            have s2 : S_X6_sayNumber (Ce (21 * (32 * 4 + r))) (0 : Int32) Te Bz Bk := s2
            have w1 : f_X4_writeNumber (Ce (21 * (32 * 4 + r))) Ss (0 : Int32) = (S', nI c) := w1
            have w2 : f_X6_sayNumber (Ce (21 * (32 * 4 + r))) (0 : Int32) Te Bz Bk = (nI c, T', 0, B') := w2
            refine ⟨⟨fun z => absurd z n0, fun _ => ⟨fun z => absurd z n1, fun _ => ⟨fun z => absurd z n2, fun _ => ⟨fun z => absurd z n3, fun _ => ⟨vh, fun z => absurd z hq, fun _ => ⟨vh, s1, fun _ _ => True.intro⟩⟩⟩⟩⟩⟩, ⟨fun z => absurd z ne10, fun _ => ⟨fun z => absurd z ne10, fun _ => ⟨fun z => absurd z n1, fun _ => ⟨fun z => absurd z n2, fun _ => ⟨fun z => absurd z n3, fun _ => ⟨fun _ => ⟨vc, fun _ => ⟨vc, s2, fun u hu => ?_⟩, fun z => absurd hp z⟩, fun z => absurd n4 z⟩⟩⟩⟩⟩⟩, c, S', T', B', 0, by omega, w3, ?_, ?_⟩
            · rw [hu, w2]; exact sg_S (by omega) a2
            · rw [if_neg n0, if_neg n1, if_neg n2, if_neg n3, if_neg hq]; simp only [w1]
            · rw [if_neg n1, if_neg n2, if_neg n3, if_pos n4, if_pos hp]; simp only [w2]; exact sg_pair a2 (nI c) _ _
          · have hq : Ce (21 * (32 * 4 + r)) = (-1 : Int64) := by
              apply Int64.toInt_inj.mp
              rw [i64le, l0] at hp
              rw [lm]
              omega
            obtain ⟨s1, s2, S', T', w1, w2, w3⟩ := b_void (m := 0) (by omega) (Ss := Ss) (Te := Te) (fun q hq => absurd hq (by omega))
            have s1 : S_X4_writeText [118, 111, 105, 100] Ss (0 : Int32) := s1
            have s2 : S_X6_sayVoid (0 : Int32) Te := s2
            have w1 : f_X4_writeText [118, 111, 105, 100] Ss (0 : Int32) = (S', nI 4) := w1
            have w2 : f_X6_sayVoid (0 : Int32) Te = (nI 4, T') := w2
            refine ⟨⟨fun z => absurd z n0, fun _ => ⟨fun z => absurd z n1, fun _ => ⟨fun z => absurd z n2, fun _ => ⟨fun z => absurd z n3, fun _ => ⟨vh, fun _ => ⟨s1, fun _ _ => True.intro⟩, fun z => absurd hq z⟩⟩⟩⟩⟩, ⟨fun z => absurd z ne10, fun _ => ⟨fun z => absurd z ne10, fun _ => ⟨fun z => absurd z n1, fun _ => ⟨fun z => absurd z n2, fun _ => ⟨fun z => absurd z n3, fun _ => ⟨fun _ => ⟨vc, fun z => absurd z hp, fun _ => ⟨s2, fun u hu => ?_⟩⟩, fun z => absurd n4 z⟩⟩⟩⟩⟩⟩, 4, S', T', Bk, Bz, by omega, w3, ?_, ?_⟩
            · rw [hu, w2]; exact sg_S (k := 4) (by omega) a2
            · rw [if_neg n0, if_neg n1, if_neg n2, if_neg n3, if_pos hq]; simp only [w1]
            · rw [if_neg n1, if_neg n2, if_neg n3, if_pos n4, if_neg hp]; simp only [w2]; exact sg_pair a2 (nI 4) _ _
      obtain ⟨m1, m2, n, S', T', B', z', hn, hs, m3, m4⟩ := main
      obtain ⟨g1, g2⟩ := sg_X4 hn hs a2
      refine ⟨?_, m2, 0, sg a2 (nI n) T', sg a2 (nI n) T', 0, S', nI n, nI n, T', z', B', ?_, m4, Or.inl rfl, rfl, fun _ => rfl⟩
      · intro u1 _ _ u3 _ _ u5 h5
        rw [h5, ec, homeN hk]
        refine ⟨S_homeN hk _, m1, fun u8 h8 => ?_⟩
        rw [h8, m3]
        exact ⟨g1, fun _ _ => True.intro⟩
      · unfold f_X5_shown
        simp only [e1, e3, if_true, ec, homeN hk, m3, g2]
    · refine ⟨fun u1 _ _ u3 hu h3 => absurd h3 (by rw [hu, e3]; decide), ?_, 2, 0, 0, 2, Ss, Sm, Si, Te, Bz, Bk, ?_, ?_, Or.inr (Or.inr rfl), rfl, fun z => absurd z (by decide)⟩
      · unfold S_X6_shown
        rw [e2, e4]
        exact ⟨fun z => absurd z ne10, fun _ => ⟨fun _ => True.intro, fun z => absurd rfl z⟩⟩
      · unfold f_X5_shown
        simp only [e1, e3, if_true]
        rfl
      · unfold f_X6_shown
        rw [e2, e4, if_neg ne10, if_pos rfl]
  · refine ⟨fun u1 hu h1 => absurd h1 (by rw [hu, e1]; decide), ?_, 1, 0, 0, 1, Ss, Sm, Si, Te, Bz, Bk, ?_, ?_, Or.inr (Or.inl rfl), rfl, fun z => absurd z (by decide)⟩
    · unfold S_X6_shown
      rw [e2]
      exact ⟨fun _ => True.intro, fun z => absurd rfl z⟩
    · unfold f_X5_shown
      simp only [e1]
      rfl
    · unfold f_X6_shown
      rw [e2, if_pos rfl]

end
