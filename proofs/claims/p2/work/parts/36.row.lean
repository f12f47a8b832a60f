/-! signs: the row -/
theorem L_row {h c N : Nat} {Bc Ce : Nat → Int64} (hh : h + 21 ≤ 928) (hcc : c + 21 ≤ 3360) (hN : N ≤ 20) (hB : Bc h = lN N) (hC : Ce c = lN N) (hE : ∀ j, j < 20 → Bc (h + 1 + j) = Ce (c + 1 + j)) :
    ∀ (n i m : Nat) (Ss Te : Nat → Int32), i ≤ N → 21 - i ≤ n → m + (20 - i) ≤ 61 → SR m Ss Te →
      SL_X5_writeRow_2 n (nI i) Ss (nI m) (nI h) Bc ∧ SL_X6_shown_93 (n + 1) (nI i) (nI m) Te (nI c) Ce ∧ ∃ (x y : Int32) (k : Nat) (Ss' Te' : Nat → Int32), m + k ≤ 61 ∧ L_X5_writeRow_2 n (nI i) Ss (nI m) (nI h) Bc = (x, Ss', nI (m + k)) ∧ L_X6_shown_93 (n + 1) (nI i) (nI m) Te (nI c) Ce = (y, nI (m + k), Te') ∧ SR (m + k) Ss' Te' := by
  intro n
  induction n with
  | zero => intro i m Ss Te _ h; exact absurd h (by omega)
  | succ n ih =>
    intro i m Ss Te hi hn hm hs
    have ch : (nI h).toNatClampNeg = h := clN (by omega)
    have cc : (nI c).toNatClampNeg = c := clN (by omega)
    have eh : nI h + (1 : Int32) + nI i = nI (h + 1 + i) := by rw [← nI_succ, nI_add]
    have ec : nI c + (1 : Int32) + nI i = nI (c + 1 + i) := by rw [← nI_succ, nI_add]
    have ch2 : (nI (h + 1 + i)).toNatClampNeg = h + 1 + i := clN (by omega)
    have cc2 : (nI (c + 1 + i)).toNatClampNeg = c + 1 + i := clN (by omega)
    have il : (nI i).toInt64 = lN i := nI_l (by omega)
    have i20 : ((20 : Int32) ≤ nI i) ↔ 20 ≤ i := nI_leI (a := 20) (by omega) (by omega)
    have iN : (lN N ≤ lN i) ↔ N ≤ i := lN_le (by omega) (by omega)
    have hvc : vp_in (nI c) 3360 := vin (by omega) (by omega)
    have hvh : vp_in (nI h) 928 := vin (by omega) (by omega)
    rw [SL_X5_writeRow_2, L_X5_writeRow_2, SL_X6_shown_93, L_X6_shown_93, ch, cc, hB, hC, il, eh, ec, ch2, cc2]
    by_cases hst : N ≤ i
    · have y := iN.mpr hst
      rw [if_pos y, if_pos y]
      refine ⟨⟨fun _ => True.intro, fun _ => ⟨hvh, fun _ => True.intro, fun z => absurd y z⟩⟩, ⟨hvc, fun _ => True.intro, fun z => absurd y z⟩, nI i, nI i, 0, Ss, Te, by omega, ?_, rfl, hs⟩
      rw [ite_self]
      rfl
    · have y : ¬ lN N ≤ lN i := fun z => hst (iN.mp z)
      have y2 : ¬ (20 : Int32) ≤ nI i := fun z => by have := i20.mp z; omega
      obtain ⟨sw, ew⟩ := wrN (m := m) (by omega) (Bc (h + 1 + i)).toInt32 Ss
      have ey := sayN (m := m) (by omega) (Ce (c + 1 + i)).toInt32 Te
      rw [← hE i (by omega)] at ey
      obtain ⟨s1, s2, x, yy, k, Ss', Te', hk, e1, e2, e3⟩ := ih (i + 1) (m + 1) _ _ (by omega) (by omega) (by omega) (SR_1 hs (Bc (h + 1 + i)).toInt32)
      have em : m + 1 + k = m + (k + 1) := by omega
      rw [em] at e1 e2 e3
      rw [if_neg y, if_neg y, if_neg y2, ← hE i (by omega), ← nI_succ]
      simp only [ew, ey]
      exact ⟨⟨fun z => absurd z y2, fun _ => ⟨hvh, fun z => absurd z y, fun _ => ⟨vin (by omega) (by omega), sw, fun u eu => by rw [eu]; exact s1⟩⟩⟩, ⟨hvc, fun z => absurd z y, fun _ => ⟨vin (by omega) (by omega), ⟨vin (by omega) (by omega), True.intro⟩, fun u eu => by rw [eu]; exact s2⟩⟩, x, yy, k + 1, Ss', Te', by omega, e1, e2, e3⟩
