/-! multiply, divide -/
theorem copyTo_at {k r : Nat} (hk : k < 5) (hr : r < 32) {Bc Ce : Nat → Int64} (h : RV Bc Ce) (Md : Nat → Int64) : S_X0_copyTo (nI k) (nI r) Bc Md ∧ ∀ j, j < wd k → f_X0_copyTo (nI k) (nI r) Bc Md j = Ce (21 * (32 * k + r) + j) := by
  have hw := wd_le hk
  have hl := hm_le hk hr
  have c1 : (nI (hm k + r * wd k)).toNatClampNeg = hm k + r * wd k := clN (by omega)
  have c2 : (nI (wd k)).toNatClampNeg = wd k := clN (by omega)
  unfold S_X0_copyTo f_X0_copyTo
  rw [homeN hk, gW hk, c1, c2]
  refine ⟨⟨S_homeN hk _, vin (by omega) (by omega), nI_pos (by omega), by decide, nI_pos (by omega), by omega, by rw [cl0]; omega, True.intro⟩, fun j hj => ?_⟩
  have e := cpy_in (f := Bc) (g := Md) (sp := hm k + r * wd k) (dp := 0) hj
  rw [Nat.zero_add] at e
  rw [cl0, e]
  exact (h k r hk hr).2 j hj
def opS (x4 : Int32) (v x : Int64) : Int64 := if x4 = 0 then x * v else x / v
theorem scale_at {k : Nat} (hk : k < 3) (v : Int64) (x4 : Int32) (hx : ¬ x4 = 0 → ¬ v = 0) (Va : Nat → Int64) : S_X6_scale (nI k) v x4 Va ∧ ∀ j, f_X6_scale (nI k) v x4 Va j = if j = 0 ∨ (k = 2 ∧ (j = 1 ∨ j = 3)) then opS x4 v (Va j) else Va j := by
  have a1 : (0 : Int32) + 1 = 1 := by decide
  have a2 : (1 : Int32) + 1 = 2 := by decide
  have a3 : (2 : Int32) + 1 = 3 := by decide
  have a4 : (3 : Int32) + 1 = 4 := by decide
  have b0 : ¬ (4 : Int32) ≤ 0 := by decide
  have b1 : ¬ (4 : Int32) ≤ 1 := by decide
  have b2 : ¬ (4 : Int32) ≤ 2 := by decide
  have b3 : ¬ (4 : Int32) ≤ 3 := by decide
  have b4 : (4 : Int32) ≤ 4 := by decide
  have c1 : ¬ (1 : Int32) = 0 := by decide
  have c2 : ¬ (2 : Int32) = 0 := by decide
  have c3 : ¬ (3 : Int32) = 0 := by decide
  have d1 : ¬ (1 : Int32) = 2 := by decide
  have d3 : ¬ (3 : Int32) = 2 := by decide
  have v0 : vp_in (0 : Int32) 21 := v21 0 (by omega)
  have v1 : vp_in (1 : Int32) 21 := v21 1 (by omega)
  have v3 : vp_in (3 : Int32) 21 := v21 3 (by omega)
  unfold S_X6_scale f_X6_scale
  by_cases hk2 : k = 2
  · subst hk2
    have e : nI 2 = (2 : Int32) := rfl
    rw [e]
    by_cases h4 : x4 = 0
    · simp only [L_X6_scale_3, SL_X6_scale_3, a1, a2, a3, a4, b0, b1, b2, b3, b4, c1, c2, c3, d1, d3, if_pos h4, if_true, if_false, cl0, cl1, cl3, opS]
      refine ⟨⟨by simp only [h4, v0, v1, v3, false_implies, true_implies, not_true, not_false_eq_true, and_true, and_self], fun _ _ => True.intro⟩, fun j => ?_⟩
      simp only [uL]
      repeat' split
      all_goals first | rfl | omega | (subst_vars; simp_all)
    · have hv := hx h4
      simp only [L_X6_scale_3, SL_X6_scale_3, a1, a2, a3, a4, b0, b1, b2, b3, b4, c1, c2, c3, d1, d3, if_neg h4, if_true, if_false, cl0, cl1, cl3, opS]
      refine ⟨⟨by simp only [h4, hv, v0, v1, v3, false_implies, true_implies, not_true, not_false_eq_true, and_true, and_self], fun _ _ => True.intro⟩, fun j => ?_⟩
      simp only [uL]
      repeat' split
      all_goals first | rfl | omega | (subst_vars; simp_all)
  · have e : ¬ nI k = (2 : Int32) := fun z => hk2 ((nI_eq (b := 2) (by omega) (by omega)).mp z)
    by_cases h4 : x4 = 0
    · simp only [L_X6_scale_3, SL_X6_scale_3, a1, a2, a3, a4, b0, b1, b2, b3, b4, c1, c2, c3, d1, d3, e, if_pos h4, if_true, if_false, cl0, cl1, cl3, opS]
      refine ⟨⟨by simp only [h4, v0, v1, v3, false_implies, true_implies, not_true, not_false_eq_true, and_true, and_self], fun _ _ => True.intro⟩, fun j => ?_⟩
      simp only [uL]
      repeat' split
      all_goals first | rfl | omega | (subst_vars; simp_all)
    · have hv := hx h4
      simp only [L_X6_scale_3, SL_X6_scale_3, a1, a2, a3, a4, b0, b1, b2, b3, b4, c1, c2, c3, d1, d3, e, if_neg h4, if_true, if_false, cl0, cl1, cl3, opS]
      refine ⟨⟨by simp only [h4, hv, v0, v1, v3, false_implies, true_implies, not_true, not_false_eq_true, and_true, and_self], fun _ _ => True.intro⟩, fun j => ?_⟩
      simp only [uL]
      repeat' split
      all_goals first | rfl | omega | (subst_vars; simp_all)
