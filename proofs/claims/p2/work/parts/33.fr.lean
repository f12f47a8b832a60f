/-! signs: what stands behind the point -/
def IP (i P : Nat) : Prop := (i = 0 ∧ P = 10) ∨ (i = 1 ∧ P = 100) ∨ (i = 2 ∧ P = 1000) ∨ (i = 3 ∧ P = 10000) ∨ (i = 4 ∧ P = 100000) ∨ (i = 5 ∧ P = 1000000)
theorem L_frac : ∀ (n i m X P : Nat) (Ss Te : Nat → Int32) (x9 : Int32), IP i P → 6 - i ≤ n → X < 655360 → m + (5 - i) ≤ 61 → SR m Ss Te → x9 = (if i = 0 ∨ P < X then 1 else 0) →
    SL_X4_writeFraction_18 n (lN X) (lN P) (nI i) Ss (nI m) ∧ SL_X6_sayLength_63 n (lN X) (lN P) x9 (nI m) Te ∧ ∃ (c : Nat) (a b : Int64) (d : Int32) (a' b' : Int64) (d' : Int32) (Ss' Te' : Nat → Int32), c ≤ 5 - i ∧ L_X4_writeFraction_18 n (lN X) (lN P) (nI i) Ss (nI m) = (a, b, d, Ss', nI (m + c)) ∧ L_X6_sayLength_63 n (lN X) (lN P) x9 (nI m) Te = (a', b', d', nI (m + c), Te') ∧ SR (m + c) Ss' Te' := by
  intro n
  induction n with
  | zero => intro i m X P Ss Te x9 hP h; unfold IP at hP; exact absurd h (by omega)
  | succ n ih =>
    intro i m X P Ss Te x9 hP hn hX hm hs h9
    have hPP := hP
    unfold IP at hPP
    have n9 : ¬ (9 : Int32) ≤ nI i := fun z => by have := (nI_leI (a := 9) (by omega) (by omega)).mp z; omega
    have i0 : (nI i = 0) ↔ i = 0 := nI_eq (b := 0) (by omega) (by omega)
    have iP : (lN X ≤ lN P) ↔ X ≤ P := lN_le (by omega) (by omega)
    rw [SL_X4_writeFraction_18, L_X4_writeFraction_18, SL_X6_sayLength_63, L_X6_sayLength_63]
    by_cases hgo : i = 0 ∨ P < X
    · rw [if_pos hgo] at h9
      subst h9
      have xP : ¬ i = 0 → ¬ lN X ≤ lN P := fun z y => by have := iP.mp y; omega
      have q6 : lN P * (10 : Int64) = lN (P * 10) := lN_mul P 10
      have q7 : (10 : Int64) * lN P = lN (P * 10) := by rw [show (10 : Int64) = lN 10 from rfl, lN_mul, Nat.mul_comm]
      have key : ∀ Y, Y < 655360 → _ := fun Y hY => ih (i + 1) (m + 1) (10 * (Y % 65536)) (P * 10) (upd Ss m (nI (48 + Y / 65536))) (upd Te m (nI (48 + Y / 65536))) (if 10 * (Y % 65536) ≤ P * 10 then 0 else 1) (by unfold IP; omega) (by omega) (by omega) (by omega) (SR_1 hs _) (by
        by_cases hA : 10 * (Y % 65536) ≤ P * 10
        · rw [if_pos hA, if_neg (by omega)]
        · rw [if_neg hA, if_pos (by omega)])
      by_cases hp : lN P ≤ (65536 : Int64)
      · have hp1 := (lN_le (b := 65536) (by omega) (by omega)).mp hp
        by_cases hA : 10 * (X % 65536) ≤ P * 10
        · have q1 : lN X / (65536 : Int64) = lN (X / 65536) := pk_lDiv (b := 65536) (by omega) (by omega) (by omega)
          have q2 : lN X - lN X / (65536 : Int64) * (65536 : Int64) = lN (X % 65536) := pk_lRem (b := 65536) (by omega) (by omega) (by omega)
          rw [q1] at q2
          have q3 : (10 : Int64) * lN (X % 65536) = lN (10 * (X % 65536)) := lN_mul 10 _
          have q4 : (48 : Int32) + (lN (X / 65536)).toInt32 = nI (48 + X / 65536) := by rw [lN_i]; exact nI_add 48 _
          have q5 : ((48 : Int64) + lN (X / 65536)).toInt32 = nI (48 + X / 65536) := by rw [show (48 : Int64) = lN 48 from rfl, lN_add, lN_i]
          have hA' : lN (10 * (X % 65536)) ≤ lN (P * 10) := (lN_le (by omega) (by omega)).mpr hA
          obtain ⟨k1, k2, c, a, b, d, a', b', d', Ss', Te', k3, k4, k5, k6⟩ := key X (by omega)
          rw [if_pos hA] at k2 k5
          obtain ⟨sw, ew⟩ := wrN (m := m) (by omega) (nI (48 + X / 65536)) Ss
          have ey := sayN (m := m) (by omega) (nI (48 + X / 65536)) Te
          have em : m + 1 + c = m + (c + 1) := by omega
          rw [em] at k4 k5 k6
          rw [if_neg n9, if_neg ne10, if_pos hp, if_pos hp]
          simp only [q1, q2, q3, q4, q5, q6, q7, ew, ey, if_pos hA', ← nI_succ]
          refine ⟨⟨fun z => absurd z n9, fun _ => ⟨fun _ => ⟨fun _ => ⟨sw, fun u eu => by rw [eu]; exact k1⟩, fun z => absurd hp z⟩, fun _ => ⟨fun _ => True.intro, fun _ => ⟨fun _ => ⟨sw, fun u eu => by rw [eu]; exact k1⟩, fun z => absurd hp z⟩⟩⟩⟩, ⟨fun z => absurd z ne10, fun _ => ⟨fun _ => ⟨⟨vin (by omega) (by omega), True.intro⟩, fun u eu => by rw [eu]; exact ⟨fun _ => k2, fun z => absurd hA' z⟩⟩, fun z => absurd hp z⟩⟩, c + 1, a, b, d, a', b', d', Ss', Te', by omega, ?_, k5, k6⟩
          by_cases z0 : i = 0
          · rw [if_pos (i0.mpr z0)]; exact k4
          · rw [if_neg (fun z => z0 (i0.mp z)), if_neg (xP z0)]; exact k4
        · have q1 : lN X / (65536 : Int64) = lN (X / 65536) := pk_lDiv (b := 65536) (by omega) (by omega) (by omega)
          have q2 : lN X - lN X / (65536 : Int64) * (65536 : Int64) = lN (X % 65536) := pk_lRem (b := 65536) (by omega) (by omega) (by omega)
          rw [q1] at q2
          have q3 : (10 : Int64) * lN (X % 65536) = lN (10 * (X % 65536)) := lN_mul 10 _
          have q4 : (48 : Int32) + (lN (X / 65536)).toInt32 = nI (48 + X / 65536) := by rw [lN_i]; exact nI_add 48 _
          have q5 : ((48 : Int64) + lN (X / 65536)).toInt32 = nI (48 + X / 65536) := by rw [show (48 : Int64) = lN 48 from rfl, lN_add, lN_i]
          have hA' : ¬ lN (10 * (X % 65536)) ≤ lN (P * 10) := fun z => hA ((lN_le (by omega) (by omega)).mp z)
          obtain ⟨k1, k2, c, a, b, d, a', b', d', Ss', Te', k3, k4, k5, k6⟩ := key X (by omega)
          rw [if_neg hA] at k2 k5
          obtain ⟨sw, ew⟩ := wrN (m := m) (by omega) (nI (48 + X / 65536)) Ss
          have ey := sayN (m := m) (by omega) (nI (48 + X / 65536)) Te
          have em : m + 1 + c = m + (c + 1) := by omega
          rw [em] at k4 k5 k6
          rw [if_neg n9, if_neg ne10, if_pos hp, if_pos hp]
          simp only [q1, q2, q3, q4, q5, q6, q7, ew, ey, if_neg hA', ← nI_succ]
          refine ⟨⟨fun z => absurd z n9, fun _ => ⟨fun _ => ⟨fun _ => ⟨sw, fun u eu => by rw [eu]; exact k1⟩, fun z => absurd hp z⟩, fun _ => ⟨fun _ => True.intro, fun _ => ⟨fun _ => ⟨sw, fun u eu => by rw [eu]; exact k1⟩, fun z => absurd hp z⟩⟩⟩⟩, ⟨fun z => absurd z ne10, fun _ => ⟨fun _ => ⟨⟨vin (by omega) (by omega), True.intro⟩, fun u eu => by rw [eu]; exact ⟨fun z => absurd z hA', fun _ => k2⟩⟩, fun z => absurd hp z⟩⟩, c + 1, a, b, d, a', b', d', Ss', Te', by omega, ?_, k5, k6⟩
          by_cases z0 : i = 0
          · rw [if_pos (i0.mpr z0)]; exact k4
          · rw [if_neg (fun z => z0 (i0.mp z)), if_neg (xP z0)]; exact k4
      · have hp1 : 65536 < P := by
          rcases Nat.lt_or_ge 65536 P with z | z
          · exact z
          · exact absurd ((lN_le (b := 65536) (by omega) (by omega)).mpr z) hp
        by_cases hA : 10 * ((X - 17232) % 65536) ≤ P * 10
        · have q0 : lN X - (17232 : Int64) = lN (X - 17232) := lN_sub (b := 17232) (by omega)
          have q1 : lN (X - 17232) / (65536 : Int64) = lN ((X - 17232) / 65536) := pk_lDiv (b := 65536) (by omega) (by omega) (by omega)
          have q2 : lN (X - 17232) - lN (X - 17232) / (65536 : Int64) * (65536 : Int64) = lN ((X - 17232) % 65536) := pk_lRem (b := 65536) (by omega) (by omega) (by omega)
          rw [q1] at q2
          have q3 : (10 : Int64) * lN ((X - 17232) % 65536) = lN (10 * ((X - 17232) % 65536)) := lN_mul 10 _
          have q4 : (48 : Int32) + (lN ((X - 17232) / 65536)).toInt32 = nI (48 + (X - 17232) / 65536) := by rw [lN_i]; exact nI_add 48 _
          have q5 : ((48 : Int64) + lN ((X - 17232) / 65536)).toInt32 = nI (48 + (X - 17232) / 65536) := by rw [show (48 : Int64) = lN 48 from rfl, lN_add, lN_i]
          have hA' : lN (10 * ((X - 17232) % 65536)) ≤ lN (P * 10) := (lN_le (by omega) (by omega)).mpr hA
          obtain ⟨k1, k2, c, a, b, d, a', b', d', Ss', Te', k3, k4, k5, k6⟩ := key (X - 17232) (by omega)
          rw [if_pos hA] at k2 k5
          obtain ⟨sw, ew⟩ := wrN (m := m) (by omega) (nI (48 + (X - 17232) / 65536)) Ss
          have ey := sayN (m := m) (by omega) (nI (48 + (X - 17232) / 65536)) Te
          have em : m + 1 + c = m + (c + 1) := by omega
          rw [em] at k4 k5 k6
          rw [if_neg n9, if_neg ne10, if_neg hp, if_neg hp]
          simp only [q0, q1, q2, q3, q4, q5, q6, q7, ew, ey, if_pos hA', ← nI_succ]
          refine ⟨⟨fun z => absurd z n9, fun _ => ⟨fun _ => ⟨fun z => absurd z hp, fun _ => ⟨sw, fun u eu => by rw [eu]; exact k1⟩⟩, fun _ => ⟨fun _ => True.intro, fun _ => ⟨fun z => absurd z hp, fun _ => ⟨sw, fun u eu => by rw [eu]; exact k1⟩⟩⟩⟩⟩, ⟨fun z => absurd z ne10, fun _ => ⟨fun z => absurd z hp, fun _ => ⟨⟨vin (by omega) (by omega), True.intro⟩, fun u eu => by rw [eu]; exact ⟨fun _ => k2, fun z => absurd hA' z⟩⟩⟩⟩, c + 1, a, b, d, a', b', d', Ss', Te', by omega, ?_, k5, k6⟩
          by_cases z0 : i = 0
          · rw [if_pos (i0.mpr z0)]; exact k4
          · rw [if_neg (fun z => z0 (i0.mp z)), if_neg (xP z0)]; exact k4
        · have q0 : lN X - (17232 : Int64) = lN (X - 17232) := lN_sub (b := 17232) (by omega)
          have q1 : lN (X - 17232) / (65536 : Int64) = lN ((X - 17232) / 65536) := pk_lDiv (b := 65536) (by omega) (by omega) (by omega)
          have q2 : lN (X - 17232) - lN (X - 17232) / (65536 : Int64) * (65536 : Int64) = lN ((X - 17232) % 65536) := pk_lRem (b := 65536) (by omega) (by omega) (by omega)
          rw [q1] at q2
          have q3 : (10 : Int64) * lN ((X - 17232) % 65536) = lN (10 * ((X - 17232) % 65536)) := lN_mul 10 _
          have q4 : (48 : Int32) + (lN ((X - 17232) / 65536)).toInt32 = nI (48 + (X - 17232) / 65536) := by rw [lN_i]; exact nI_add 48 _
          have q5 : ((48 : Int64) + lN ((X - 17232) / 65536)).toInt32 = nI (48 + (X - 17232) / 65536) := by rw [show (48 : Int64) = lN 48 from rfl, lN_add, lN_i]
          have hA' : ¬ lN (10 * ((X - 17232) % 65536)) ≤ lN (P * 10) := fun z => hA ((lN_le (by omega) (by omega)).mp z)
          obtain ⟨k1, k2, c, a, b, d, a', b', d', Ss', Te', k3, k4, k5, k6⟩ := key (X - 17232) (by omega)
          rw [if_neg hA] at k2 k5
          obtain ⟨sw, ew⟩ := wrN (m := m) (by omega) (nI (48 + (X - 17232) / 65536)) Ss
          have ey := sayN (m := m) (by omega) (nI (48 + (X - 17232) / 65536)) Te
          have em : m + 1 + c = m + (c + 1) := by omega
          rw [em] at k4 k5 k6
          rw [if_neg n9, if_neg ne10, if_neg hp, if_neg hp]
          simp only [q0, q1, q2, q3, q4, q5, q6, q7, ew, ey, if_neg hA', ← nI_succ]
          refine ⟨⟨fun z => absurd z n9, fun _ => ⟨fun _ => ⟨fun z => absurd z hp, fun _ => ⟨sw, fun u eu => by rw [eu]; exact k1⟩⟩, fun _ => ⟨fun _ => True.intro, fun _ => ⟨fun z => absurd z hp, fun _ => ⟨sw, fun u eu => by rw [eu]; exact k1⟩⟩⟩⟩⟩, ⟨fun z => absurd z ne10, fun _ => ⟨fun z => absurd z hp, fun _ => ⟨⟨vin (by omega) (by omega), True.intro⟩, fun u eu => by rw [eu]; exact ⟨fun z => absurd z hA', fun _ => k2⟩⟩⟩⟩, c + 1, a, b, d, a', b', d', Ss', Te', by omega, ?_, k5, k6⟩
          by_cases z0 : i = 0
          · rw [if_pos (i0.mpr z0)]; exact k4
          · rw [if_neg (fun z => z0 (i0.mp z)), if_neg (xP z0)]; exact k4
    · rw [if_neg hgo] at h9
      subst h9
      have y0 : ¬ nI i = 0 := fun z => hgo (Or.inl (i0.mp z))
      have y1 : lN X ≤ lN P := iP.mpr (by omega)
      rw [if_neg n9, if_neg y0, if_pos y1, if_pos rfl]
      exact ⟨⟨fun z => absurd z n9, fun _ => ⟨fun z => absurd z y0, fun _ => ⟨fun _ => True.intro, fun z => absurd y1 z⟩⟩⟩, ⟨fun _ => True.intro, fun z => absurd rfl z⟩, 0, _, _, _, _, _, _, Ss, Te, by omega, rfl, rfl, hs⟩
