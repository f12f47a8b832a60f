/-! signs: the reference's numbers -/
theorem L_back {v : Nat} (hv : v < 2147483648) : ∀ (n z : Nat) (Bk : Nat → Int32), z ≤ 10 → 11 - z ≤ n → (z ≤ 1 ∨ 10 ^ (z - 1) ≤ v) → (∀ q, q < z → Bk q = dg v q) →
    SL_X6_sayNumber_30 n (lN (v / 10 ^ z)) (nI z) Bk ∧ ∃ (c : Nat) (x : Int64) (Bk' : Nat → Int32), c ≤ 10 ∧ cnt v c ∧ L_X6_sayNumber_30 n (lN (v / 10 ^ z)) (nI z) Bk = (x, nI c, Bk') ∧ ∀ q, q < c → Bk' q = dg v q := by
  intro n
  induction n with
  | zero => intro z Bk h1 h2; exact absurd h2 (by omega)
  | succ n ih =>
    intro z Bk h1 h2 h3 h4
    rw [SL_X6_sayNumber_30, L_X6_sayNumber_30]
    have hle : v / 10 ^ z ≤ v := Nat.div_le_self _ _
    have hpz : 0 < 10 ^ z := Nat.pow_pos (by omega)
    have i1 : ((0 : Int64) < lN (v / 10 ^ z)) ↔ 0 < v / 10 ^ z := lN_lt (a := 0) (by omega) (by omega)
    have i2 : (nI z = 0) ↔ z = 0 := nI_eq (b := 0) (by omega) (by omega)
    have c0 : (nI z).toNatClampNeg = z := clN (by omega)
    have d1 : lN (v / 10 ^ z) / (10 : Int64) = lN (v / 10 ^ (z + 1)) := by
      have e := pk_lDiv (a := v / 10 ^ z) (b := 10) (by omega) (by omega) (by omega)
      rw [Nat.div_div_eq_div_mul, ← Nat.pow_succ] at e
      exact e
    have d2 : lN (v / 10 ^ z) - lN (v / 10 ^ z) / (10 : Int64) * (10 : Int64) = lN (v / 10 ^ z % 10) := pk_lRem (b := 10) (by omega) (by omega) (by omega)
    rw [d1] at d2
    have d3 : ((48 : Int64) + lN (v / 10 ^ z % 10)).toInt32 = dg v z := by
      rw [show (48 : Int64) = lN 48 from rfl, lN_add, lN_i]; rfl
    have st : (0 < v / 10 ^ z ∨ z = 0) → SL_X6_sayNumber_30 n (lN (v / 10 ^ (z + 1))) (nI (z + 1)) (upd Bk z (dg v z)) ∧ ∃ (c : Nat) (x : Int64) (Bk' : Nat → Int32), c ≤ 10 ∧ cnt v c ∧ L_X6_sayNumber_30 n (lN (v / 10 ^ (z + 1))) (nI (z + 1)) (upd Bk z (dg v z)) = (x, nI c, Bk') ∧ ∀ q, q < c → Bk' q = dg v q := by
      intro hs
      have hz9 : z ≤ 9 := by
        rcases hs with hs | hs
        · rcases Nat.lt_or_ge z 10 with y | y
          · omega
          · exfalso
            have e : z = 10 := by omega
            rw [e] at hs
            have : v / 10 ^ 10 = 0 := Nat.div_eq_of_lt (by omega)
            omega
        · omega
      refine ih (z + 1) _ (by omega) (by omega) ?_ (fun q hq => ?_)
      · rcases hs with hs | hs
        · right
          rw [Nat.add_sub_cancel]
          rcases Nat.lt_or_ge v (10 ^ z) with y | y
          · rw [Nat.div_eq_of_lt y] at hs
            omega
          · exact y
        · left; omega
      · rw [uI]
        by_cases y : q = z
        · rw [if_pos y, y]
        · rw [if_neg y]; exact h4 q (by omega)
    rw [d1, d2, d3, c0, ← nI_succ]
    by_cases hw : 0 < v / 10 ^ z
    · obtain ⟨s1, s2⟩ := st (Or.inl hw)
      have y := i1.mpr hw
      have hz9 : z < 20 := by omega
      rw [if_pos y]
      exact ⟨⟨fun _ => ⟨vin hz9 (by omega), s1⟩, fun z => absurd y z⟩, s2⟩
    · have y : ¬ (0 : Int64) < lN (v / 10 ^ z) := fun y => hw (i1.mp y)
      rw [if_neg y]
      by_cases hz : z = 0
      · obtain ⟨s1, s2⟩ := st (Or.inr hz)
        rw [if_pos (i2.mpr hz)]
        exact ⟨⟨fun z => absurd z y, fun _ => ⟨fun _ => ⟨vin (by omega) (by omega), s1⟩, fun q => absurd (i2.mpr hz) q⟩⟩, s2⟩
      · have y2 : ¬ nI z = 0 := fun q => hz (i2.mp q)
        rw [if_neg y2]
        have hlt : v < 10 ^ z := by
          rcases Nat.lt_or_ge v (10 ^ z) with q | q
          · exact q
          · exact absurd (Nat.div_pos q hpz) hw
        exact ⟨⟨fun z => absurd z y, fun _ => ⟨fun q => absurd q y2, fun _ => True.intro⟩⟩, z, _, Bk, h1, ⟨by omega, hlt, by omega⟩, rfl, h4⟩
theorem L_front {Bk : Nat → Int32} : ∀ (n p m : Nat) (Te : Nat → Int32), p < n → p ≤ 20 → m + p ≤ 120 → SL_X6_sayNumber_81 n (nI m) Te (nI p) Bk ∧ ∃ Te', L_X6_sayNumber_81 n (nI m) Te (nI p) Bk = (nI (m + p), Te', 0) ∧ (∀ q, q < m → Te' q = Te q) ∧ ∀ j, j < p → Te' (m + j) = Bk (p - 1 - j) := by
  intro n
  induction n with
  | zero => intro p m Te h; exact absurd h (by omega)
  | succ n ih =>
    intro p m Te hn hp20 hm
    rw [SL_X6_sayNumber_81, L_X6_sayNumber_81]
    rcases Nat.eq_zero_or_pos p with hp | hp
    · subst hp
      have y : nI 0 ≤ 0 := by decide
      rw [if_pos y]
      exact ⟨⟨fun _ => True.intro, fun z => absurd y z⟩, Te, rfl, fun _ _ => rfl, fun j hj => absurd hj (by omega)⟩
    · obtain ⟨k, rfl⟩ : ∃ k, p = k + 1 := ⟨p - 1, by omega⟩
      have y : ¬ nI (k + 1) ≤ 0 := fun z => by have := (nI_leI (b := 0) (by omega) (by omega)).mp z; omega
      have c0 : (nI k).toNatClampNeg = k := clN (by omega)
      rw [if_neg y, dn1 k (by omega), c0]
      obtain ⟨s1, Te', s2, s3, s4⟩ := ih k (m + 1) (upd Te m (Bk k)) (by omega) (by omega) (by omega)
      simp only [sayN (m := m) (by omega) (Bk k) Te]
      refine ⟨⟨fun z => absurd z y, fun _ => ⟨vin (by omega) (by omega), ⟨vin (by omega) (by omega), True.intro⟩, fun u eu => by rw [eu]; exact s1⟩⟩, Te', by rw [s2]; congr 2; omega, fun q hq => ?_, fun j hj => ?_⟩
      · rw [s3 q (by omega), uI, if_neg (by omega)]
      · by_cases z : j = 0
        · subst z
          rw [Nat.add_zero, s3 m (by omega), uI, if_pos rfl]
          congr 1
        · have e := s4 (j - 1) (by omega)
          rw [show m + 1 + (j - 1) = m + j by omega] at e
          rw [e]
          congr 1
          omega
/-- sayNumber of what isn't negative -/
theorem sDig {v m c : Nat} (hv : v < 2147483648) (hc : cnt v c) (hm : m + c ≤ 120) (Te : Nat → Int32) (Bz : Int32) (Bk : Nat → Int32) : S_X6_sayNumber (lN v) (nI m) Te Bz Bk ∧ ∃ Te' Bk', f_X6_sayNumber (lN v) (nI m) Te Bz Bk = (nI (m + c), Te', 0, Bk') ∧ (∀ q, q < m → Te' q = Te q) ∧ ∀ j, j < c → Te' (m + j) = dg v (c - 1 - j) := by
  have y : (0 : Int64) ≤ lN v := (lN_le (a := 0) (by omega) (by omega)).mpr (by omega)
  obtain ⟨s1, c', x, Bk', hc10, h1, h2, h3⟩ := L_back hv 21 0 Bk (by omega) (by omega) (Or.inl (by omega)) (fun q hq => absurd hq (by omega))
  have e := cnt_one h1 hc
  subst e
  rw [Nat.pow_zero, Nat.div_one] at s1 h2
  have s1 : SL_X6_sayNumber_30 21 (lN v) (0 : Int32) Bk := s1
  have h2 : L_X6_sayNumber_30 21 (lN v) (0 : Int32) Bk = (x, nI c', Bk') := h2
  obtain ⟨s3, Te', s4, s5, s6⟩ := L_front (Bk := Bk') 21 c' m Te (by omega) (by omega) hm
  unfold S_X6_sayNumber f_X6_sayNumber
  rw [if_pos y]
  simp only [h2, s4]
  refine ⟨⟨fun _ => ⟨s1, fun u eu => ?_⟩, fun z => absurd y z⟩, Te', Bk', rfl, s5, fun j hj => ?_⟩
  · rw [eu]; exact ⟨s3, fun _ _ => True.intro⟩
  · rw [s6 j hj, h3 _ (by omega)]
