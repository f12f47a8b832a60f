/-! numbers -/
theorem i64lt {a b : Int64} : a < b ↔ a.toInt < b.toInt := Int64.lt_iff_toInt_lt
theorem i64le {a b : Int64} : a ≤ b ↔ a.toInt ≤ b.toInt := Int64.le_iff_toInt_le
theorem i32lt {a b : Int32} : a < b ↔ a.toInt < b.toInt := Int32.lt_iff_toInt_lt
theorem i32le {a b : Int32} : a ≤ b ↔ a.toInt ≤ b.toInt := Int32.le_iff_toInt_le
theorem i3264 (a : Int32) : a.toInt64.toInt = a.toInt := Int32.toInt_toInt64 a
theorem w1 {v a b : Int64} (h1 : a.toInt ≤ v.toInt) (h2 : v.toInt ≤ b.toInt) : f_X5_within v a b = 1 := by
  unfold f_X5_within
  rw [if_neg (fun h => by have := i64lt.mp h; omega), if_neg (fun h => by have := i64lt.mp h; omega)]
theorem w0 {v a b : Int64} (h : ¬ (a.toInt ≤ v.toInt ∧ v.toInt ≤ b.toInt)) : f_X5_within v a b = 0 := by
  unfold f_X5_within
  by_cases h1 : v < a
  · rw [if_pos h1]
  · rw [if_neg h1]
    by_cases h2 : b < v
    · rw [if_pos h2]
    · exact absurd ⟨by rw [i64lt] at h1; omega, by rw [i64lt] at h2; omega⟩ h
theorem win (v a b : Int64) : (f_X5_within v a b = 1 ∧ a.toInt ≤ v.toInt ∧ v.toInt ≤ b.toInt) ∨ (f_X5_within v a b = 0 ∧ ¬ (a.toInt ≤ v.toInt ∧ v.toInt ≤ b.toInt)) := by
  by_cases h : a.toInt ≤ v.toInt ∧ v.toInt ≤ b.toInt
  · exact Or.inl ⟨w1 h.1 h.2, h⟩
  · exact Or.inr ⟨w0 h, h⟩
theorem in_eq : f_X6_in = f_X5_within := rfl
theorem len_eq : f_X6_isLength = f_X5_isLength := rfl
theorem ne10 : ¬ (1 : Int32) = 0 := by decide
theorem nIr {a : Int32} {n : Nat} (h0 : 0 ≤ a.toInt) (h : a.toInt ≤ n) (hn : n < 2147483648) : ∃ r, r ≤ n ∧ a = nI r := by
  refine ⟨a.toInt.toNat, by omega, ?_⟩
  apply Int32.toInt_inj.mp
  rw [nI_toInt (by omega)]
  omega
theorem reg (a : Int32) : (∃ r, r < 32 ∧ a = nI r ∧ f_X5_checkRegister a.toInt64 = 0 ∧ f_X6_isRegister a = 1) ∨ (f_X5_checkRegister a.toInt64 = 2 ∧ f_X6_isRegister a = 0) := by
  unfold f_X5_checkRegister f_X6_isRegister
  rw [in_eq]
  rcases win a.toInt64 0 31 with ⟨h, h1, h2⟩ | ⟨h, h1⟩
  · rw [i3264] at h1 h2
    obtain ⟨r, hr, e⟩ := nIr (a := a) (n := 31) h1 h2 (by omega)
    exact Or.inl ⟨r, by omega, e, by rw [h, if_neg ne10], h⟩
  · exact Or.inr ⟨by rw [h, if_pos rfl], h⟩
theorem kin (a : Int32) (n : Nat) (hn : n < 100) (L : Int64) (hL : L.toInt = n) : (∃ k, k ≤ n ∧ a = nI k ∧ f_X5_checkKind a (nI n) = 0 ∧ f_X5_within a.toInt64 0 L = 1) ∨ (f_X5_checkKind a (nI n) = 1 ∧ f_X5_within a.toInt64 0 L = 0) := by
  unfold f_X5_checkKind
  rcases win a.toInt64 0 L with ⟨h, h1, h2⟩ | ⟨h, h1⟩
  · rw [i3264] at h1 h2
    rw [hL] at h2
    have h1 : 0 ≤ a.toInt := h1
    obtain ⟨r, hr, e⟩ := nIr (a := a) (n := n) h1 h2 (by omega)
    refine Or.inl ⟨r, hr, e, ?_, h⟩
    rw [if_neg (fun z => by have := i32lt.mp z; have e0 : (0 : Int32).toInt = 0 := rfl; omega), if_pos (by rw [i32le, nI_toInt (by omega)]; exact h2)]
  · refine Or.inr ⟨?_, h⟩
    by_cases h2 : a < 0
    · rw [if_pos h2]
    · rw [if_neg h2]
      by_cases h3 : a ≤ nI n
      · refine absurd ⟨?_, ?_⟩ h1
        · rw [i3264]; rw [i32lt] at h2; have e0 : (0 : Int32).toInt = 0 := rfl; have e1 : (0 : Int64).toInt = 0 := rfl; omega
        · rw [i3264, hL]; rw [i32le, nI_toInt (by omega)] at h3; exact h3
      · rw [if_neg h3]
theorem kin4 (a : Int32) : (∃ k, k < 5 ∧ a = nI k ∧ f_X5_checkKind a (4 : Int32) = 0 ∧ f_X6_isKind a = 1) ∨ (f_X5_checkKind a (4 : Int32) = 1 ∧ f_X6_isKind a = 0) := by
  rcases kin a 4 (by omega) 4 rfl with ⟨k, h1, h2, h3, h4⟩ | ⟨h3, h4⟩
  · exact Or.inl ⟨k, by omega, h2, h3, h4⟩
  · exact Or.inr ⟨h3, h4⟩
theorem kin2 (a : Int32) : (∃ k, k < 3 ∧ a = nI k ∧ f_X5_checkKind a (2 : Int32) = 0 ∧ f_X6_in a.toInt64 0 2 = 1) ∨ (f_X5_checkKind a (2 : Int32) = 1 ∧ f_X6_in a.toInt64 0 2 = 0) := by
  rcases kin a 2 (by omega) 2 rfl with ⟨k, h1, h2, h3, h4⟩ | ⟨h3, h4⟩
  · exact Or.inl ⟨k, by omega, h2, h3, h4⟩
  · exact Or.inr ⟨h3, h4⟩
/-! where a value lies -/
def hm (k : Nat) : Nat := [0, 32, 64, 224, 896].getD k 0
def wd (k : Nat) : Nat := [1, 1, 5, 21, 1].getD k 0
theorem k5 {P : Nat → Prop} (h0 : P 0) (h1 : P 1) (h2 : P 2) (h3 : P 3) (h4 : P 4) {k : Nat} (hk : k < 5) : P k := by
  rcases (show k = 0 ∨ k = 1 ∨ k = 2 ∨ k = 3 ∨ k = 4 by omega) with rfl | rfl | rfl | rfl | rfl <;> assumption
theorem gH {k : Nat} (hk : k < 5) : gHOMES (nI k) = nI (hm k) := k5 (P := fun k => gHOMES (nI k) = nI (hm k)) (by decide) (by decide) (by decide) (by decide) (by decide) hk
theorem gW {k : Nat} (hk : k < 5) : gWIDTHS (nI k) = nI (wd k) := k5 (P := fun k => gWIDTHS (nI k) = nI (wd k)) (by decide) (by decide) (by decide) (by decide) (by decide) hk
theorem wd_le {k : Nat} (hk : k < 5) : 1 ≤ wd k ∧ wd k ≤ 21 := k5 (P := fun k => 1 ≤ wd k ∧ wd k ≤ 21) (by decide) (by decide) (by decide) (by decide) (by decide) hk
theorem hm_le {k r : Nat} (hk : k < 5) (hr : r < 32) : hm k + r * wd k + wd k ≤ 928 := by
  revert hk
  refine k5 (P := fun k => hm k + r * wd k + wd k ≤ 928) ?_ ?_ ?_ ?_ ?_ <;> simp only [hm, wd, List.getD_cons_zero, List.getD_cons_succ] <;> omega
theorem homeN {k r : Nat} (hk : k < 5) : f_X0_home (nI k) (nI r) = nI (hm k + r * wd k) := by
  unfold f_X0_home
  rw [gH hk, gW hk, pk_mul, nI_add]
theorem S_homeN {k : Nat} (hk : k < 5) (a : Int32) : S_X0_home (nI k) a := ⟨vp_in_nI (by omega) (by omega), vp_in_nI (by omega) (by omega), True.intro⟩
theorem placeN (k r : Nat) : f_X0_place (nI k) (nI r) = nI (32 * k + r) := by
  unfold f_X0_place
  rw [show (32 : Int32) = nI 32 from rfl, pk_mul, nI_add, Nat.mul_comm]
theorem clN {n : Nat} (h : n < 2147483648) : (nI n).toNatClampNeg = n := nI_clamp (by omega)
theorem vin {n N : Nat} (h : n < N) (hN : N < 2147483648) : vp_in (nI n) N := vp_in_nI h (by omega)
