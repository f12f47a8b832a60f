/-! the relation of two new objects -/
def Rel2 (d K T G B : Nat) (Bc : Nat → Int64) (Bl Pk Pr Pl : Nat → Int32) (Pc : Nat → Int64) (Gf Gt Gx Ek Er Ea Ex : Nat → Int32) (Wg Wr : Nat → Int64)
    (Ce : Nat → Int64) (Le : Nat → Int32) (Kc : Nat → Int64) (Ko Kl Kd : Nat → Int32) (Ug Ur : Nat → Int64) (Tt Td Gg Ga Bt : Nat → Int32) : Prop :=
  (d ≤ 20 ∧ K ≤ 200 ∧ T ≤ 60 ∧ G ≤ 200 ∧ B ≤ 60) ∧ RV Bc Ce ∧ RLv Bl Le ∧ RP K Pk Pr Pl Pc Ko Kl Kc ∧ RKv K Kl ∧ RD d K Gf Kd ∧ RD d T Gt Td ∧ (∀ q, q < T → Gx q = Tt q) ∧ RE G Ek Er Ea Gg Ga ∧ (∀ q, q < B → Ex q = Bt q) ∧ (okV 2 Ug ∧ ∀ j, j < 5 → Wg j = Ug j) ∧ (okV 3 Ur ∧ ∀ j, j < 21 → Wr j = Ur j)
theorem init0 : ∀ (n x : Nat) (f : Nat → Int64), x ≤ 32 → 32 - x < n → ∀ i, L_X0_init n (nI x) f i = if 896 + x ≤ i ∧ i < 928 then -1 else f i := by
  intro n
  induction n with
  | zero => intro x f _ h; exact absurd h (Nat.not_lt_zero _)
  | succ n ih =>
    intro x f hx hn i
    rw [L_X0_init]
    by_cases hc : 32 ≤ x
    · have y : (32 : Int32) ≤ nI x := (nI_leI (a := 32) (by omega) (by omega)).mpr hc
      rw [if_pos y, if_neg (by omega)]
    · have y : ¬ (32 : Int32) ≤ nI x := fun z => hc ((nI_leI (a := 32) (by omega) (by omega)).mp z)
      rw [if_neg y, home4, clN (n := 896 + x * 1) (by omega), ← nI_succ, ih (x + 1) _ (by omega) (by omega)]
      simp only [uL]
      by_cases h1 : i = 896 + x
      · rw [if_neg (by omega), if_pos (by omega), if_pos (by omega)]
      · by_cases h2 : 896 + x ≤ i ∧ i < 928
        · rw [if_pos (by omega), if_pos h2]
        · rw [if_neg (by omega), if_neg (by omega), if_neg h2]
theorem init6 : ∀ (n x : Nat) (f : Nat → Int64), x ≤ 32 → 32 - x < n → (∀ r, x ≤ r → r < 32 → L_X6_init n (nI x) f (21 * (128 + r)) = -1) ∧ ∀ i, (∀ r, x ≤ r → r < 32 → i ≠ 21 * (128 + r)) → L_X6_init n (nI x) f i = f i := by
  intro n
  induction n with
  | zero => intro x f _ h; exact absurd h (Nat.not_lt_zero _)
  | succ n ih =>
    intro x f hx hn
    rw [L_X6_init]
    by_cases hc : 32 ≤ x
    · have y : (32 : Int32) ≤ nI x := (nI_leI (a := 32) (by omega) (by omega)).mpr hc
      rw [if_pos y]
      exact ⟨fun r h1 h2 => absurd h2 (by omega), fun _ _ => rfl⟩
    · have y : ¬ (32 : Int32) ≤ nI x := fun z => hc ((nI_leI (a := 32) (by omega) (by omega)).mp z)
      rw [if_neg y, show (21 : Int32) * ((128 : Int32) + nI x) = nI (21 * (128 + x)) from sixN 128 x, clN (n := 21 * (128 + x)) (by omega), ← nI_succ]
      obtain ⟨h1, h2⟩ := ih (x + 1) (vp_updL f (21 * (128 + x)) (-1)) (by omega) (by omega)
      refine ⟨fun r hr hr2 => ?_, fun i hi => ?_⟩
      · by_cases z : r = x
        · rw [z, h2 _ (fun r' z1 z2 => by omega), uL, if_pos rfl]
        · exact h1 r (by omega) hr2
      · rw [h2 i (fun r' z1 z2 => hi r' (by omega) z2), uL, if_neg (hi x (Nat.le_refl _) (by omega))]
theorem RV0 : RV (L_X0_init 33 0 (fun _ => 0)) (L_X6_init 33 0 (fun _ => 0)) := by
  have a1 := init0 33 0 (fun _ => 0) (by omega) (by omega)
  obtain ⟨a2, a3⟩ := init6 33 0 (fun _ => 0) (by omega) (by omega)
  have a1 : ∀ i, L_X0_init 33 0 (fun _ => 0) i = if 896 + 0 ≤ i ∧ i < 928 then -1 else (0 : Int64) := a1
  have a2 : ∀ r, 0 ≤ r → r < 32 → L_X6_init 33 0 (fun _ => 0) (21 * (128 + r)) = -1 := a2
  have a3 : ∀ i, (∀ r, 0 ≤ r → r < 32 → i ≠ 21 * (128 + r)) → L_X6_init 33 0 (fun _ => 0) i = (0 : Int64) := a3
  intro k r hk hr
  have hw := wd_le hk
  by_cases h4 : k = 4
  · subst h4
    have e6 : L_X6_init 33 0 (fun _ => 0) (21 * (32 * 4 + r) + 0) = -1 := a2 r (by omega) hr
    refine ⟨⟨fun z => absurd z (by decide), fun z => absurd z (by decide), fun z => absurd z (by decide), fun z => absurd z (by decide), fun _ => ?_⟩, fun j hj => ?_⟩
    · show -1 ≤ (L_X6_init 33 0 (fun _ => 0) (21 * (32 * 4 + r) + 0)).toInt ∧ (L_X6_init 33 0 (fun _ => 0) (21 * (32 * 4 + r) + 0)).toInt ≤ 999
      rw [e6]; decide
    · have hj : j < 1 := hj
      have j0 : j = 0 := by omega
      subst j0
      have hh : hm 4 = 896 := rfl
      have hwd : wd 4 = 1 := rfl
      rw [e6, a1, if_pos (by rw [hh, hwd]; omega)]
  · have e6 : ∀ j, j < 21 → L_X6_init 33 0 (fun _ => 0) (21 * (32 * k + r) + j) = 0 := fun j hj => a3 _ (fun r' _ _ => by omega)
    have e5 : ∀ j, j < wd k → L_X0_init 33 0 (fun _ => 0) (hm k + r * wd k + j) = 0 := by
      intro j hj
      rw [a1, if_neg]
      rcases (show k = 0 ∨ k = 1 ∨ k = 2 ∨ k = 3 by omega) with rfl | rfl | rfl | rfl <;> simp only [hm, wd, List.getD_cons_zero, List.getD_cons_succ] at * <;> omega
    refine ⟨⟨fun _ => ?_, fun _ => ?_, fun _ => ?_, fun _ => ⟨0, by omega, e6 0 (by omega)⟩, fun z => absurd z h4⟩, fun j hj => by rw [e5 j hj, e6 j (by omega)]⟩
    · simp only [e6 0 (by omega)]; decide
    · simp only [e6 0 (by omega)]; decide
    · simp only [e6 0 (by omega), e6 1 (by omega), e6 2 (by omega), e6 3 (by omega), e6 4 (by omega)]; decide
theorem ok0 (k : Nat) : okV k (fun _ => 0) := ⟨fun _ => by decide, fun _ => by decide, fun _ => by decide, fun _ => ⟨0, by omega, rfl⟩, fun _ => by decide⟩
theorem rel0 : Rel2 0 0 0 0 0 (L_X0_init 33 0 (fun _ => 0)) (fun _ => 0) (fun _ => 0) (fun _ => 0) (fun _ => 0) (fun _ => 0) (fun _ => 0) (fun _ => 0) (fun _ => 0) (fun _ => 0) (fun _ => 0) (fun _ => 0) (fun _ => 0) (fun _ => 0) (fun _ => 0)
    (L_X6_init 33 0 (fun _ => 0)) (fun _ => 0) (fun _ => 0) (fun _ => 0) (fun _ => 0) (fun _ => 0) (fun _ => 0) (fun _ => 0) (fun _ => 0) (fun _ => 0) (fun _ => 0) (fun _ => 0) (fun _ => 0) := by
  have d0 : ∀ (f g : Nat → Int32), RD 0 0 f g := fun f g => ⟨fun _ => 0, fun _ => 0, fun q hq => absurd hq (by omega), fun i hi => absurd hi (by omega)⟩
  exact ⟨⟨by omega, by omega, by omega, by omega, by omega⟩, RV0, fun q _ => ⟨rfl, Int.le_refl 0⟩, fun q hq => absurd hq (by omega), fun q hq => absurd hq (by omega), d0 _ _, d0 _ _, fun q hq => absurd hq (by omega), fun q hq => absurd hq (by omega), fun q hq => absurd hq (by omega), ⟨ok0 2, fun _ _ => rfl⟩, ⟨ok0 3, fun _ _ => rfl⟩⟩
