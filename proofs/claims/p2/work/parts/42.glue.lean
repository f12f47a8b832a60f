/-! signs: glue -/
def wordOk (bs : List Int32) (w : Int32) : Prop := bs.length ≤ 7 ∧ ∀ (m : Nat), m + bs.length ≤ 61 → ∀ (Ss Te : Nat → Int32), SR m Ss Te →
    S_X4_writeText bs Ss (nI m) ∧ S_X6_sayWord w (nI m) Te ∧ ∃ Ss' Te', f_X4_writeText bs Ss (nI m) = (Ss', nI (m + bs.length)) ∧ f_X6_sayWord w (nI m) Te = (nI (m + bs.length), Te') ∧ SR (m + bs.length) Ss' Te'
theorem ok_plus : wordOk [32, 112, 108, 117, 115, 32] 1 := ⟨by decide, fun _ hm _ _ hs => b_plus hm hs⟩
theorem ok_minus : wordOk [32, 109, 105, 110, 117, 115, 32] 0 := ⟨by decide, fun _ hm _ _ hs => b_minus hm hs⟩
/-- a stretch or shrink that isn't 0: the class's writeFlexible against the reference's three says -/
theorem b_fx {bs : List Int32} {w : Int32} (hw : wordOk bs w) {h : Nat} (hh : h + 1 < 928) {Bc : Nat → Int64} (hxn : ¬ Bc h = 0) (hb1 : -1073741824 < (Bc h).toInt) (hb2 : (Bc h).toInt < 1073741824) {o : Nat} (ho : o ≤ 3) (hy : Bc (h + 1) = lN o) {m : Nat} (hm : m + (bs.length + 17) ≤ 61) {Ss Te : Nat → Int32} (hs : SR m Ss Te) (Bz : Int32) (Bk : Nat → Int32) :
    S_X5_writeFlexible bs (nI h) Bc Ss (nI m) ∧ S_X6_sayWord w (nI m) Te ∧ ∃ (k m1 m2 : Nat) (S3 T1 T2 T3 B2 : Nat → Int32), k ≤ bs.length + 17 ∧ f_X5_writeFlexible bs (nI h) Bc Ss (nI m) = (S3, nI (m + k)) ∧ f_X6_sayWord w (nI m) Te = (nI m1, T1) ∧ S_X6_sayLength (Bc h) (nI m1) T1 Bz Bk ∧ f_X6_sayLength (Bc h) (nI m1) T1 Bz Bk = (nI m2, T2, 0, B2) ∧ S_X6_sayOrder (lN o) (nI m2) T2 ∧ f_X6_sayOrder (lN o) (nI m2) T2 = (nI (m + k), T3) ∧ SR (m + k) S3 T3 := by
  obtain ⟨s1, s2, S1, T1, e1, e2, r1⟩ := hw.2 m (by omega) Ss Te hs
  obtain ⟨s3, s4, c, S2, T2, B2, hc, e3, e4, r2⟩ := b_len hb1 hb2 (m := m + bs.length) (by omega) r1 Bz Bk
  obtain ⟨s5, s6, S3, T3, e5, e6, r3⟩ := b_order ho (m := m + bs.length + c) (by omega) r2
  have em : m + bs.length + c + (2 + o) = m + (bs.length + c + (2 + o)) := by omega
  rw [em] at e5 e6 r3
  have ch : (nI h).toNatClampNeg = h := clN (by omega)
  have eh : nI h + (1 : Int32) = nI (h + 1) := (nI_succ h).symm
  have ch2 : (nI (h + 1)).toNatClampNeg = h + 1 := clN (by omega)
  refine ⟨?_, s2, bs.length + c + (2 + o), m + bs.length, m + bs.length + c, S3, T1, T2, T3, B2, by omega, ?_, e2, s4, e4, s6, e6, r3⟩
  · unfold S_X5_writeFlexible
    rw [eh, ch, ch2, hy]
    refine ⟨vin (by omega) (by omega), fun z => absurd z hxn, fun _ => ⟨s1, fun u1 h1 => ?_⟩⟩
    rw [h1, e1]
    refine ⟨vin (by omega) (by omega), s3, fun u2 h2 => ?_⟩
    rw [h2, e3]
    exact ⟨vin (by omega) (by omega), s5, fun _ _ => True.intro⟩
  · unfold f_X5_writeFlexible
    rw [eh, ch, ch2, hy, if_neg hxn]
    simp only [e1, e3, e5]
/-- one turn of the reference's loop against the class's writeFlexible -/
theorem b_turn {bs : List Int32} {i : Nat} (hi : i = 1 ∧ wordOk bs 1 ∨ i = 3 ∧ wordOk bs 0) {h c : Nat} (hh : h + i + 1 < 928) (hc : c + i + 1 < 3360) {Bc Ce : Nat → Int64} (hx : Bc (h + i) = Ce (c + i)) (hb1 : -1073741824 < (Ce (c + i)).toInt) (hb2 : (Ce (c + i)).toInt < 1073741824) {o : Nat} (ho : o ≤ 3) (hy : Bc (h + i + 1) = lN o) (hy2 : Ce (c + i + 1) = lN o) {m : Nat} (hm : m + (bs.length + 17) ≤ 61) {Ss Te : Nat → Int32} (hs : SR m Ss Te) (n : Nat) (Bz : Int32) (Bk : Nat → Int32) :
    S_X5_writeFlexible bs (nI (h + i)) Bc Ss (nI m) ∧ ∃ (k : Nat) (S3 T3 B3 : Nat → Int32) (z3 : Int32), k ≤ bs.length + 17 ∧ f_X5_writeFlexible bs (nI (h + i)) Bc Ss (nI m) = (S3, nI (m + k)) ∧ SR (m + k) S3 T3 ∧
      (SL_X6_sayGlue_17 n (nI (i + 2)) (nI (m + k)) T3 z3 B3 (nI c) Ce → SL_X6_sayGlue_17 (n + 1) (nI i) (nI m) Te Bz Bk (nI c) Ce) ∧ L_X6_sayGlue_17 (n + 1) (nI i) (nI m) Te Bz Bk (nI c) Ce = L_X6_sayGlue_17 n (nI (i + 2)) (nI (m + k)) T3 z3 B3 (nI c) Ce := by
  have hi3 : i ≤ 3 := by rcases hi with z | z <;> omega
  have n4 : ¬ (4 : Int32) ≤ nI i := fun z => by
    have := (nI_leI (a := 4) (b := i) (by omega) (by omega)).mp z
    omega
  have ec : nI c + nI i = nI (c + i) := nI_add c i
  have cc : (nI (c + i)).toNatClampNeg = c + i := clN (by omega)
  have ec2 : nI (c + i) + (1 : Int32) = nI (c + i + 1) := (nI_succ _).symm
  have cc2 : (nI (c + i + 1)).toNatClampNeg = c + i + 1 := clN (by omega)
  have ei : nI i + (2 : Int32) = nI (i + 2) := nI_add i 2
  have ei2 : nI i + 2 = nI (i + 2) := nI_add i 2
  have ch : (nI (h + i)).toNatClampNeg = h + i := clN (by omega)
  have v1 : vp_in (nI (c + i)) 3360 := vin (by omega) (by omega)
  have v2 : vp_in (nI (c + i + 1)) 3360 := vin (by omega) (by omega)
  rw [SL_X6_sayGlue_17, L_X6_sayGlue_17, if_neg n4, ec, cc, ec2, cc2, hy2, ei]
  by_cases h0 : Ce (c + i) = 0
  · rw [if_pos h0]
    refine ⟨?_, 0, Ss, Te, Bk, Bz, by omega, ?_, hs, fun q => ⟨fun z => absurd z n4, fun _ => ⟨v1, fun _ => q, fun z => absurd h0 z⟩⟩, rfl⟩
    · unfold S_X5_writeFlexible
      rw [ch, hx]
      exact ⟨vin (by omega) (by omega), fun _ => True.intro, fun z => absurd h0 z⟩
    · unfold f_X5_writeFlexible
      rw [ch, hx, if_pos h0]
      rfl
  · rw [if_neg h0]
    rcases hi with ⟨rfl, hw⟩ | ⟨rfl, hw⟩
    · obtain ⟨s1, s2, k, m1, m2, S3, T1, T2, T3, B2, hk, e1, e2, s3, e3, s4, e4, r⟩ := b_fx hw (h := h + 1) (by omega) (Bc := Bc) (by rw [hx]; exact h0) (by rw [hx]; exact hb1) (by rw [hx]; exact hb2) ho hy hm hs Bz Bk
      rw [hx] at s3 e3
      have i1 : nI 1 = (1 : Int32) := rfl
      refine ⟨s1, k, S3, T3, B2, 0, hk, e1, r, fun q => ⟨fun z => absurd z n4, fun _ => ⟨v1, fun z => absurd z h0, fun _ => ⟨fun _ => ⟨s2, fun u1 h1 => ?_⟩, fun z => absurd i1 z⟩⟩⟩, ?_⟩
      · rw [h1, e2]
        refine ⟨v1, s3, fun u2 h2 => ?_⟩
        rw [h2, e3]
        refine ⟨v2, s4, fun u3 h3 => ?_⟩
        rw [h3, e4]
        exact q
      · rw [if_pos i1]
        simp only [e2, e3, e4]
    · obtain ⟨s1, s2, k, m1, m2, S3, T1, T2, T3, B2, hk, e1, e2, s3, e3, s4, e4, r⟩ := b_fx hw (h := h + 3) (by omega) (Bc := Bc) (by rw [hx]; exact h0) (by rw [hx]; exact hb1) (by rw [hx]; exact hb2) ho hy hm hs Bz Bk
      rw [hx] at s3 e3
      have i1 : ¬ nI 3 = (1 : Int32) := by decide
      refine ⟨s1, k, S3, T3, B2, 0, hk, e1, r, fun q => ⟨fun z => absurd z n4, fun _ => ⟨v1, fun z => absurd z h0, fun _ => ⟨fun z => absurd z i1, fun _ => ⟨s2, fun u1 h1 => ?_⟩⟩⟩⟩, ?_⟩
      · rw [h1, e2]
        refine ⟨v1, s3, fun u2 h2 => ?_⟩
        rw [h2, e3]
        refine ⟨v2, s4, fun u3 h3 => ?_⟩
        rw [h3, e4]
        exact q
      · rw [if_neg i1]
        simp only [e2, e3, e4]
theorem ordN {x : Int64} (h1 : 0 ≤ x.toInt) (h2 : x.toInt ≤ 3) : ∃ o : Nat, o ≤ 3 ∧ x = lN o := by
  refine ⟨x.toInt.toNat, by omega, ?_⟩
  apply Int64.toInt_inj.mp
  rw [lN_toInt (by omega)]
  omega
theorem b_glue {h c : Nat} (hh : h + 5 ≤ 928) (hc : c + 5 ≤ 3360) {Bc Ce : Nat → Int64} (hv : okV 2 (fun j => Ce (c + j))) (he : ∀ j, j < 5 → Bc (h + j) = Ce (c + j)) (Ss Te : Nat → Int32) (Bz : Int32) (Bk : Nat → Int32) :
    S_X5_writeGlue (nI h) Bc Ss (0 : Int32) ∧ S_X6_sayGlue (nI c) Ce (0 : Int32) Te Bz Bk ∧ ∃ (k : Nat) (Ss' Te' Bk' : Nat → Int32) (z : Int32), k ≤ 61 ∧ f_X5_writeGlue (nI h) Bc Ss (0 : Int32) = (Ss', nI k) ∧ f_X6_sayGlue (nI c) Ce (0 : Int32) Te Bz Bk = (nI k, Te', z, Bk') ∧ SR k Ss' Te' := by
  obtain ⟨b0, b1, b3, b2, b4⟩ := hv.2.2.1 rfl
  have b0 : -1073741823 ≤ (Ce c).toInt ∧ (Ce c).toInt ≤ 1073741823 := b0
  have b1 : -1073741823 ≤ (Ce (c + 1)).toInt ∧ (Ce (c + 1)).toInt ≤ 1073741823 := b1
  have b3 : -1073741823 ≤ (Ce (c + 3)).toInt ∧ (Ce (c + 3)).toInt ≤ 1073741823 := b3
  have b2 : 0 ≤ (Ce (c + 2)).toInt ∧ (Ce (c + 2)).toInt ≤ 3 := b2
  have b4 : 0 ≤ (Ce (c + 4)).toInt ∧ (Ce (c + 4)).toInt ≤ 3 := b4
  obtain ⟨o1, ho1, eo1⟩ := ordN b2.1 b2.2
  obtain ⟨o2, ho2, eo2⟩ := ordN b4.1 b4.2
  have he0 : Bc h = Ce c := he 0 (by omega)
  have ch : (nI h).toNatClampNeg = h := clN (by omega)
  have cc : (nI c).toNatClampNeg = c := clN (by omega)
  have eh1 : nI h + (1 : Int32) = nI (h + 1) := (nI_succ h).symm
  have eh3 : nI h + (3 : Int32) = nI (h + 3) := nI_add h 3
  obtain ⟨s1, s2, c1, S1, T1, B1, hc1, e1, e2, r1⟩ := b_len (a := Ce c) (by omega) (by omega) (m := 0) (by omega) (Ss := Ss) (Te := Te) (fun q hq => absurd hq (by omega)) Bz Bk
  obtain ⟨s3, s4, S2, T2, e3, e4, r2⟩ := b_ord0 (m := 0 + c1) (by omega) r1
  obtain ⟨s5, k1, S3, T3, B3, z3, hk1, e5, r3, q3, w3⟩ := b_turn (i := 1) (Or.inl ⟨rfl, ok_plus⟩) (h := h) (c := c) (by omega) (by omega) (he 1 (by omega)) (by omega) (by omega) ho1 ((he 2 (by omega)).trans eo1) eo1 (m := 0 + c1 + 2) (by simp only [List.length_cons, List.length_nil]; omega) r2 2 0 B1
  have hk1 : k1 ≤ 6 + 17 := hk1
  obtain ⟨s6, k2, S4, T4, B4, z4, hk2, e6, r4, q4, w4⟩ := b_turn (i := 3) (Or.inr ⟨rfl, ok_minus⟩) (h := h) (c := c) (by omega) (by omega) (he 3 (by omega)) (by omega) (by omega) ho2 ((he 4 (by omega)).trans eo2) eo2 (m := 0 + c1 + 2 + k1) (by simp only [List.length_cons, List.length_nil]; omega) r3 1 z3 B3
  have hk2 : k2 ≤ 7 + 17 := hk2
  have w5 : L_X6_sayGlue_17 1 (nI (3 + 2)) (nI (0 + c1 + 2 + k1 + k2)) T4 z4 B4 (nI c) Ce = (nI (3 + 2), nI (0 + c1 + 2 + k1 + k2), T4, z4, B4) := by
    rw [L_X6_sayGlue_17, if_pos (by decide)]
  have q5 : SL_X6_sayGlue_17 1 (nI (3 + 2)) (nI (0 + c1 + 2 + k1 + k2)) T4 z4 B4 (nI c) Ce := by
    rw [SL_X6_sayGlue_17]
    exact ⟨fun _ => True.intro, fun z => absurd (by decide) z⟩
  have q6 := q3 (q4 q5)
  have w6 := w3.trans (w4.trans w5)
  have q6 : SL_X6_sayGlue_17 3 (1 : Int32) (nI (0 + c1 + 2)) T2 0 B1 (nI c) Ce := q6
  have w6 : L_X6_sayGlue_17 3 (1 : Int32) (nI (0 + c1 + 2)) T2 0 B1 (nI c) Ce = (nI (3 + 2), nI (0 + c1 + 2 + k1 + k2), T4, z4, B4) := w6
  have s1 : S_X4_writeLength (Ce c) Ss (0 : Int32) := s1
  have s2 : S_X6_sayLength (Ce c) (0 : Int32) Te Bz Bk := s2
  have e1 : f_X4_writeLength (Ce c) Ss (0 : Int32) = (S1, nI (0 + c1)) := e1
  have e2 : f_X6_sayLength (Ce c) (0 : Int32) Te Bz Bk = (nI (0 + c1), T1, 0, B1) := e2
  refine ⟨?_, ?_, 0 + c1 + 2 + k1 + k2, S4, T4, B4, z4, by omega, ?_, ?_, r4⟩
  · unfold S_X5_writeGlue
    rw [ch, he0, eh1, eh3]
    refine ⟨vin (by omega) (by omega), s1, fun u1 h1 => ?_⟩
    rw [h1, e1]
    refine ⟨s3, fun u2 h2 => ?_⟩
    rw [h2, e3]
    refine ⟨s5, fun u3 h3 => ?_⟩
    rw [h3, e5]
    exact ⟨s6, fun _ _ => True.intro⟩
  · unfold S_X6_sayGlue
    rw [cc]
    refine ⟨vin (by omega) (by omega), s2, fun u1 h1 => ?_⟩
    rw [h1, e2]
    refine ⟨s4, fun u2 h2 => ?_⟩
    rw [h2, e4]
    exact ⟨q6, fun _ _ => True.intro⟩
  · unfold f_X5_writeGlue
    rw [ch, he0, eh1, eh3]
    simp only [e1, e3, e5, e6]
  · unfold f_X6_sayGlue
    rw [cc]
    simp only [e2, e4, w6]
