section
/-! numbers -/
theorem i64lt {a b : Int64} : a < b ↔ a.toInt < b.toInt := Int64.lt_iff_toInt_lt
theorem i64le {a b : Int64} : a ≤ b ↔ a.toInt ≤ b.toInt := Int64.le_iff_toInt_le
theorem i32lt {a b : Int32} : a < b ↔ a.toInt < b.toInt := Int32.lt_iff_toInt_lt
theorem i32le {a b : Int32} : a ≤ b ↔ a.toInt ≤ b.toInt := Int32.le_iff_toInt_le
theorem i3264 (a : Int32) : a.toInt64.toInt = a.toInt := Int32.toInt_toInt64 a
theorem w1 {v a b : Int64} (h1 : a.toInt ≤ v.toInt) (h2 : v.toInt ≤ b.toInt) : f_X5_within v a b = 1 := by
  unfold f_X5_within
  rw [if_neg (fun h => by have := i64lt.mp h; omega), if_neg (fun h => by have := i64lt.mp h; omega)]
theorem w0 {v a b : Int64} (h : ¬ (a.toInt ≤ v.toInt ∧ v.toInt ≤ b.toInt)) : f_X5_within v a b = 0 := by
  unfold f_X5_within
  by_cases h1 : v < a
  · rw [if_pos h1]
  · rw [if_neg h1]
    by_cases h2 : b < v
    · rw [if_pos h2]
    · exact absurd ⟨by rw [i64lt] at h1; omega, by rw [i64lt] at h2; omega⟩ h
theorem win (v a b : Int64) : (f_X5_within v a b = 1 ∧ a.toInt ≤ v.toInt ∧ v.toInt ≤ b.toInt) ∨ (f_X5_within v a b = 0 ∧ ¬ (a.toInt ≤ v.toInt ∧ v.toInt ≤ b.toInt)) := by
  by_cases h : a.toInt ≤ v.toInt ∧ v.toInt ≤ b.toInt
  · exact Or.inl ⟨w1 h.1 h.2, h⟩
  · exact Or.inr ⟨w0 h, h⟩
theorem in_eq : f_X6_in = f_X5_within := rfl
theorem len_eq : f_X6_isLength = f_X5_isLength := rfl
theorem ne10 : ¬ (1 : Int32) = 0 := by decide
theorem nIr {a : Int32} {n : Nat} (h0 : 0 ≤ a.toInt) (h : a.toInt ≤ n) (hn : n < 2147483648) : ∃ r, r ≤ n ∧ a = nI r := by
  refine ⟨a.toInt.toNat, by omega, ?_⟩
  apply Int32.toInt_inj.mp
  rw [nI_toInt (by omega)]
  omega
theorem reg (a : Int32) : (∃ r, r < 32 ∧ a = nI r ∧ f_X5_checkRegister a.toInt64 = 0 ∧ f_X6_isRegister a = 1) ∨ (f_X5_checkRegister a.toInt64 = 2 ∧ f_X6_isRegister a = 0) := by
  unfold f_X5_checkRegister f_X6_isRegister
  rw [in_eq]
  rcases win a.toInt64 0 31 with ⟨h, h1, h2⟩ | ⟨h, h1⟩
  · rw [i3264] at h1 h2
    obtain ⟨r, hr, e⟩ := nIr (a := a) (n := 31) h1 h2 (by omega)
    exact Or.inl ⟨r, by omega, e, by rw [h, if_neg ne10], h⟩
  · exact Or.inr ⟨by rw [h, if_pos rfl], h⟩
theorem kin (a : Int32) (n : Nat) (hn : n < 100) (L : Int64) (hL : L.toInt = n) : (∃ k, k ≤ n ∧ a = nI k ∧ f_X5_checkKind a (nI n) = 0 ∧ f_X5_within a.toInt64 0 L = 1) ∨ (f_X5_checkKind a (nI n) = 1 ∧ f_X5_within a.toInt64 0 L = 0) := by
  unfold f_X5_checkKind
  rcases win a.toInt64 0 L with ⟨h, h1, h2⟩ | ⟨h, h1⟩
  · rw [i3264] at h1 h2
    rw [hL] at h2
    have h1 : 0 ≤ a.toInt := h1
    obtain ⟨r, hr, e⟩ := nIr (a := a) (n := n) h1 h2 (by omega)
    refine Or.inl ⟨r, hr, e, ?_, h⟩
    rw [if_neg (fun z => by have := i32lt.mp z; have e0 : (0 : Int32).toInt = 0 := rfl; omega), if_pos (by rw [i32le, nI_toInt (by omega)]; exact h2)]
  · refine Or.inr ⟨?_, h⟩
    by_cases h2 : a < 0
    · rw [if_pos h2]
    · rw [if_neg h2]
      by_cases h3 : a ≤ nI n
      · refine absurd ⟨?_, ?_⟩ h1
        · rw [i3264]; rw [i32lt] at h2; have e0 : (0 : Int32).toInt = 0 := rfl; have e1 : (0 : Int64).toInt = 0 := rfl; omega
        · rw [i3264, hL]; rw [i32le, nI_toInt (by omega)] at h3; exact h3
      · rw [if_neg h3]
theorem kin4 (a : Int32) : (∃ k, k < 5 ∧ a = nI k ∧ f_X5_checkKind a (4 : Int32) = 0 ∧ f_X6_isKind a = 1) ∨ (f_X5_checkKind a (4 : Int32) = 1 ∧ f_X6_isKind a = 0) := by
  rcases kin a 4 (by omega) 4 rfl with ⟨k, h1, h2, h3, h4⟩ | ⟨h3, h4⟩
  · exact Or.inl ⟨k, by omega, h2, h3, h4⟩
  · exact Or.inr ⟨h3, h4⟩
theorem kin2 (a : Int32) : (∃ k, k < 3 ∧ a = nI k ∧ f_X5_checkKind a (2 : Int32) = 0 ∧ f_X6_in a.toInt64 0 2 = 1) ∨ (f_X5_checkKind a (2 : Int32) = 1 ∧ f_X6_in a.toInt64 0 2 = 0) := by
  rcases kin a 2 (by omega) 2 rfl with ⟨k, h1, h2, h3, h4⟩ | ⟨h3, h4⟩
  · exact Or.inl ⟨k, by omega, h2, h3, h4⟩
  · exact Or.inr ⟨h3, h4⟩
/-! where a value lies -/
def hm (k : Nat) : Nat := [0, 32, 64, 224, 896].getD k 0
def wd (k : Nat) : Nat := [1, 1, 5, 21, 1].getD k 0
theorem k5 {P : Nat → Prop} (h0 : P 0) (h1 : P 1) (h2 : P 2) (h3 : P 3) (h4 : P 4) {k : Nat} (hk : k < 5) : P k := by
  rcases (show k = 0 ∨ k = 1 ∨ k = 2 ∨ k = 3 ∨ k = 4 by omega) with rfl | rfl | rfl | rfl | rfl <;> assumption
theorem gH {k : Nat} (hk : k < 5) : gHOMES (nI k) = nI (hm k) := k5 (P := fun k => gHOMES (nI k) = nI (hm k)) (by decide) (by decide) (by decide) (by decide) (by decide) hk
theorem gW {k : Nat} (hk : k < 5) : gWIDTHS (nI k) = nI (wd k) := k5 (P := fun k => gWIDTHS (nI k) = nI (wd k)) (by decide) (by decide) (by decide) (by decide) (by decide) hk
theorem wd_le {k : Nat} (hk : k < 5) : 1 ≤ wd k ∧ wd k ≤ 21 := k5 (P := fun k => 1 ≤ wd k ∧ wd k ≤ 21) (by decide) (by decide) (by decide) (by decide) (by decide) hk
theorem hm_le {k r : Nat} (hk : k < 5) (hr : r < 32) : hm k + r * wd k + wd k ≤ 928 := by
  revert hk
  refine k5 (P := fun k => hm k + r * wd k + wd k ≤ 928) ?_ ?_ ?_ ?_ ?_ <;> simp only [hm, wd, List.getD_cons_zero, List.getD_cons_succ] <;> omega
theorem homeN {k r : Nat} (hk : k < 5) : f_X0_home (nI k) (nI r) = nI (hm k + r * wd k) := by
  unfold f_X0_home
  rw [gH hk, gW hk, pk_mul, nI_add]
theorem S_homeN {k : Nat} (hk : k < 5) (a : Int32) : S_X0_home (nI k) a := ⟨vp_in_nI (by omega) (by omega), vp_in_nI (by omega) (by omega), True.intro⟩
theorem placeN (k r : Nat) : f_X0_place (nI k) (nI r) = nI (32 * k + r) := by
  unfold f_X0_place
  rw [show (32 : Int32) = nI 32 from rfl, pk_mul, nI_add, Nat.mul_comm]
theorem clN {n : Nat} (h : n < 2147483648) : (nI n).toNatClampNeg = n := nI_clamp (by omega)
theorem vin {n N : Nat} (h : n < N) (hN : N < 2147483648) : vp_in (nI n) N := vp_in_nI h (by omega)

end
section
/-! THE RELATION of the class's cells to the reference's -/
/-- what a value of a KIND may be -/
def okV (k : Nat) (v : Nat → Int64) : Prop :=
  (k = 0 → -2147483647 ≤ (v 0).toInt ∧ (v 0).toInt ≤ 2147483647) ∧
  (k = 1 → -1073741823 ≤ (v 0).toInt ∧ (v 0).toInt ≤ 1073741823) ∧
  (k = 2 → (-1073741823 ≤ (v 0).toInt ∧ (v 0).toInt ≤ 1073741823) ∧ (-1073741823 ≤ (v 1).toInt ∧ (v 1).toInt ≤ 1073741823) ∧ (-1073741823 ≤ (v 3).toInt ∧ (v 3).toInt ≤ 1073741823) ∧ (0 ≤ (v 2).toInt ∧ (v 2).toInt ≤ 3) ∧ (0 ≤ (v 4).toInt ∧ (v 4).toInt ≤ 3)) ∧
  (k = 3 → ∃ n, n ≤ 20 ∧ v 0 = lN n) ∧
  (k = 4 → -1 ≤ (v 0).toInt ∧ (v 0).toInt ≤ 999)
theorem okV.cong {k : Nat} {v w : Nat → Int64} (h : okV k v) (hk : k < 5) (e : ∀ j, j < wd k → w j = v j) : okV k w := by
  obtain ⟨h0, h1, h2, h3, h4⟩ := h
  refine ⟨fun z => ?_, fun z => ?_, fun z => ?_, fun z => ?_, fun z => ?_⟩ <;> subst z
  · rw [e 0 (by decide)]; exact h0 rfl
  · rw [e 0 (by decide)]; exact h1 rfl
  · rw [e 0 (by decide), e 1 (by decide), e 2 (by decide), e 3 (by decide), e 4 (by decide)]; exact h2 rfl
  · rw [e 0 (by decide)]; exact h3 rfl
  · rw [e 0 (by decide)]; exact h4 rfl
def RV (Bc Ce : Nat → Int64) : Prop := ∀ k r, k < 5 → r < 32 → okV k (fun j => Ce (21 * (32 * k + r) + j)) ∧ ∀ j, j < wd k → Bc (hm k + r * wd k + j) = Ce (21 * (32 * k + r) + j)
def RP (K : Nat) (Pk Pr Pl : Nat → Int32) (Pc : Nat → Int64) (Ko Kl : Nat → Int32) (Kc : Nat → Int64) : Prop := ∀ q, q < K → ∃ k r, k < 5 ∧ r < 32 ∧ Pk q = nI k ∧ Pr q = nI r ∧ Ko q = nI (32 * k + r) ∧ Pl q = Kl q ∧ okV k (fun j => Kc (21 * q + j)) ∧ ∀ j, j < wd k → Pc (21 * q + j) = Kc (21 * q + j)
/-- groups over a row of n things, each told at a depth: by first places, or by depths -/
def RD (d n : Nat) (Gf Kd : Nat → Int32) : Prop := ∃ gf dp : Nat → Nat, (∀ q, q < n → Kd q = nI (dp q) ∧ 1 ≤ dp q ∧ dp q ≤ d) ∧ ∀ i, i < d → Gf i = nI (gf i) ∧ gf i ≤ n ∧ ∀ q, q < n → (gf i ≤ q ↔ i + 1 ≤ dp q)
def RE (G : Nat) (Ek Er Ea Gg Ga : Nat → Int32) : Prop := ∀ q, q < G → ∃ k r, k < 5 ∧ r < 32 ∧ Ek q = nI k ∧ Er q = nI r ∧ Gg q = nI (32 * k + r) ∧ Ea q = Ga q
def Rel (d K T G B : Nat) (Bc : Nat → Int64) (Bl Pk Pr Pl : Nat → Int32) (Pc : Nat → Int64) (Gf Gt Gx Ek Er Ea Ex : Nat → Int32) (Wg Wr : Nat → Int64)
    (Ce : Nat → Int64) (Le : Nat → Int32) (Kc : Nat → Int64) (Ko Kl Kd : Nat → Int32) (Ug Ur : Nat → Int64) (Tt Td Gg Ga Bt : Nat → Int32) : Prop :=
  (d ≤ 20 ∧ K ≤ 200 ∧ T ≤ 60 ∧ G ≤ 200 ∧ B ≤ 60) ∧ (∀ q, q < 160 → Bl q = Le q) ∧ RV Bc Ce ∧ RP K Pk Pr Pl Pc Ko Kl Kc ∧ RD d K Gf Kd ∧ RD d T Gt Td ∧ (∀ q, q < T → Gx q = Tt q) ∧ RE G Ek Er Ea Gg Ga ∧ (∀ q, q < B → Ex q = Bt q) ∧ (okV 2 Ug ∧ ∀ j, j < 5 → Wg j = Ug j) ∧ (okV 3 Ur ∧ ∀ j, j < 21 → Wr j = Ur j)
theorem cl0 : (0 : Int32).toNatClampNeg = 0 := rfl
theorem cl1 : (1 : Int32).toNatClampNeg = 1 := rfl
theorem cl2 : (2 : Int32).toNatClampNeg = 2 := rfl
theorem cl3 : (3 : Int32).toNatClampNeg = 3 := rfl
theorem cl4 : (4 : Int32).toNatClampNeg = 4 := rfl
theorem l0 : (0 : Int64).toInt = 0 := rfl
theorem uL (f : Nat → Int64) (k j : Nat) (x : Int64) : vp_updL f k x j = if j = k then x else f j := rfl
theorem uI (f : Nat → Int32) (k j : Nat) (x : Int32) : upd f k x j = if j = k then x else f j := rfl
/-! glue: it depends on its arguments alone -/
theorem isLen (v : Int64) : (f_X5_isLength v = 1 ∧ -1073741823 ≤ v.toInt ∧ v.toInt ≤ 1073741823) ∨ (f_X5_isLength v = 0 ∧ ¬ (-1073741823 ≤ v.toInt ∧ v.toInt ≤ 1073741823)) := win v (-1073741823) 1073741823
theorem r_glue {Wg Ug : Nat → Int64} (h : okV 2 Ug ∧ ∀ j, j < 5 → Wg j = Ug j) (a0 a1 : Int64) (a2 : Int32) (a3 : Int64) (a4 : Int32) (Th : Int32) :
    S_X5_glue a0 a1 a2 a3 a4 Wg ∧ S_X6_glue a0 a1 a2 a3 a4 Th Ug ∧ ∃ (o : Nat) (th : Int32) (Wg' Ug' : Nat → Int64), f_X5_glue a0 a1 a2 a3 a4 Wg = (o, Wg') ∧ f_X6_glue a0 a1 a2 a3 a4 Th Ug = (th, Ug') ∧ (o = 0 ∨ o = 1) ∧ th = k_L_glue o ∧ (okV 2 Ug' ∧ ∀ j, j < 5 → Wg' j = Ug' j) := by
  have v5 : ∀ n : Nat, n < 5 → vp_in (nI n) 5 := fun n hn => vin hn (by omega)
  refine ⟨⟨fun _ => True.intro, fun _ => ⟨fun _ => True.intro, fun _ => ⟨fun _ => True.intro, fun _ => ⟨fun _ => True.intro, fun _ => ⟨fun _ => True.intro, fun _ => ⟨v5 0 (by omega), v5 1 (by omega), v5 2 (by omega), v5 3 (by omega), v5 4 (by omega), True.intro⟩⟩⟩⟩⟩⟩, ⟨fun _ => True.intro, fun _ => ⟨fun _ => True.intro, fun _ => ⟨fun _ => True.intro, fun _ => ⟨fun _ => True.intro, fun _ => ⟨fun _ => True.intro, fun _ => ⟨v5 0 (by omega), v5 1 (by omega), v5 2 (by omega), v5 3 (by omega), v5 4 (by omega), True.intro⟩⟩⟩⟩⟩⟩, ?_⟩
  unfold f_X5_glue f_X6_glue
  rw [len_eq, in_eq]
  have bad : ∀ (x : Nat × (Nat → Int64)) (y : Int32 × (Nat → Int64)), x = (1, Wg) → y = (1, Ug) → ∃ (o : Nat) (th : Int32) (Wg' Ug' : Nat → Int64), x = (o, Wg') ∧ y = (th, Ug') ∧ (o = 0 ∨ o = 1) ∧ th = k_L_glue o ∧ (okV 2 Ug' ∧ ∀ j, j < 5 → Wg' j = Ug' j) := fun x y hx hy => ⟨1, 1, Wg, Ug, hx, hy, Or.inr rfl, rfl, h⟩
  rcases isLen a0 with ⟨e0, b0⟩ | ⟨e0, b0⟩
  · rcases isLen a1 with ⟨e1, b1⟩ | ⟨e1, b1⟩
    · rcases win a2.toInt64 0 3 with ⟨e2, b2⟩ | ⟨e2, b2⟩
      · rcases isLen a3 with ⟨e3, b3⟩ | ⟨e3, b3⟩
        · rcases win a4.toInt64 0 3 with ⟨e4, b4⟩ | ⟨e4, b4⟩
          · refine ⟨0, 0, _, _, by simp only [e0, e1, e2, e3, e4, ne10, if_false]; rfl, by simp only [e0, e1, e2, e3, e4, ne10, if_false]; rfl, Or.inl rfl, rfl, ⟨?_, ?_⟩⟩
            · refine ⟨fun z => absurd z (by decide), fun z => absurd z (by decide), fun _ => ?_, fun z => absurd z (by decide), fun z => absurd z (by decide)⟩
              exact ⟨b0, b1, b3, b2, b4⟩
            · intro j hj
              have h5 := h.2 j hj
              simp only [uL, cl0, cl1, cl2, cl3, cl4]
              split <;> first | rfl | (split <;> first | rfl | (split <;> first | rfl | (split <;> first | rfl | (split <;> first | rfl | exact h5))))
          · exact bad _ _ (by simp only [e0, e1, e2, e3, e4, ne10, if_false, if_true]) (by simp only [e0, e1, e2, e3, e4, ne10, if_false, if_true])
        · exact bad _ _ (by simp only [e0, e1, e2, e3, ne10, if_false, if_true]) (by simp only [e0, e1, e2, e3, ne10, if_false, if_true])
      · exact bad _ _ (by simp only [e0, e1, e2, ne10, if_false, if_true, ite_self]) (by simp only [e0, e1, e2, ne10, if_false, if_true])
    · exact bad _ _ (by simp only [e0, e1, ne10, if_false, if_true]) (by simp only [e0, e1, ne10, if_false, if_true])
  · exact bad _ _ (by simp only [e0, if_true]) (by simp only [e0, if_true])
/-! token -/
theorem lNlt {a b : Nat} (ha : a < 2147483648) (hb : b < 2147483648) : lN a = lN b ↔ a = b := lN_eq (by omega) (by omega)
theorem r_token {Wr Ur : Nat → Int64} (h : okV 3 Ur ∧ ∀ j, j < 21 → Wr j = Ur j) (a0 : Int32) (Th : Int32) :
    S_X5_token a0 Wr ∧ S_X6_token a0 Th Ur ∧ ∃ (o : Nat) (r r' th : Int32) (Wr' Ur' : Nat → Int64), f_X5_token a0 Wr = (o, r, Wr') ∧ f_X6_token a0 Th Ur = (r', th, Ur') ∧ (o = 0 ∨ o = 1) ∧ th = k_L_token o ∧ (o = 0 → r = r') ∧ (okV 3 Ur' ∧ ∀ j, j < 21 → Wr' j = Ur' j) := by
  obtain ⟨n, hn, hu⟩ := h.1.2.2.2.1 rfl
  have hw : Wr 0 = lN n := (h.2 0 (by omega)).trans hu
  have e1 : (lN n).toInt32 = nI n := lN_i n
  have e2 : ¬ nI n < 0 := nI_pos (by omega)
  have e3 : lN n + 1 = lN (n + 1) := lN_1 n
  have e4 : (lN (n + 1)).toInt32 = nI (n + 1) := lN_i _
  have e5 : (nI (n + 1)).toNatClampNeg = n + 1 := clN (by omega)
  have e6 : nI n + 1 = nI (n + 1) := (nI_succ n).symm
  have e7 : (nI (n + 1)).toInt64 = lN (n + 1) := nI_l (by omega)
  have i1 : (nI n < 20) ↔ n < 20 := nI_ltI (b := 20) (by omega) (by omega)
  have i2 : (lN n = 20) ↔ n = 20 := lN_eq (b := 20) (by omega) (by omega)
  have hv0 : vp_in (0 : Int32) 21 := vin (n := 0) (by omega) (by omega)
  refine ⟨?_, ?_, ?_⟩
  · intro u1 _ _
    refine ⟨hv0, fun _ => True.intro, fun _ => ⟨fun hc => ?_, fun _ => True.intro⟩⟩
    rw [cl0, hw, e1, i1] at hc
    rw [cl0, hw, e1, e6]
    exact ⟨vin (by omega) (by omega), hv0, True.intro⟩
  · refine ⟨fun _ => True.intro, fun _ => ⟨hv0, fun _ => True.intro, fun hc => ?_⟩⟩
    rw [cl0, hu, i2] at hc
    refine ⟨hv0, hv0, hv0, ?_, hv0, True.intro⟩
    rw [cl0, hu]
    simp only [uL, if_true, e3, e4]
    exact vin (by omega) (by omega)
  · unfold f_X5_token f_X6_token f_X5_checkToken
    rw [in_eq]
    simp only [cl0, hw, hu, e1, e3, uL, if_true, e4, e5, e6, e7]
    rcases win a0.toInt64 0 255 with ⟨e8, b8⟩ | ⟨e8, b8⟩
    · simp only [e8, ne10, if_false, if_true, e2]
      by_cases hc : n = 20
      · subst hc
        refine ⟨0, -1, -1, 0, Wr, Ur, ?_, ?_, Or.inl rfl, rfl, fun _ => rfl, h⟩
        · rw [if_neg (fun z => by have := i1.mp z; omega)]
        · rw [if_pos (i2.mpr rfl)]
      · rw [if_pos (i1.mpr (by omega)), if_neg (fun z => hc (i2.mp z))]
        refine ⟨0, nI (n + 1), nI (n + 1), 0, vp_updL (vp_updL Wr (n + 1) a0.toInt64) 0 (lN (n + 1)), vp_updL (vp_updL Ur 0 (lN (n + 1))) (n + 1) a0.toInt64, rfl, ?_, Or.inl rfl, rfl, fun _ => rfl, ?_, ?_⟩
        · rw [if_neg (by omega), e4]
        · refine ⟨fun z => absurd z (by decide), fun z => absurd z (by decide), fun z => absurd z (by decide), fun _ => ⟨n + 1, by omega, ?_⟩, fun z => absurd z (by decide)⟩
          rw [uL, if_neg (by omega), uL, if_pos rfl]
        · intro j hj
          simp only [uL]
          by_cases z0 : j = 0
          · rw [if_pos z0, if_neg (by omega), if_pos z0]
          · rw [if_neg z0, if_neg z0]
            by_cases z1 : j = n + 1
            · rw [if_pos z1, if_pos z1]
            · rw [if_neg z1, if_neg z1]; exact h.2 j hj
    · simp only [e8, if_true]
      exact ⟨1, 0, 0, 1, Wr, Ur, rfl, rfl, Or.inr rfl, rfl, fun z => absurd z (by decide), h⟩
/-! reads of a register -/
theorem cell_ix {k r j : Nat} (hk : k < 5) (hr : r < 32) (hj : j < 21) : 21 * (32 * k + r) + j < 3360 := by omega
theorem r_get {Bc Ce : Nat → Int64} (h : RV Bc Ce) (a0 a1 Th : Int32) :
    S_X5_get a0 a1 Bc ∧ S_X6_get a0 a1 Th Ce ∧ ∃ (o : Nat) (r r' : Int64) (th : Int32), f_X5_get a0 a1 Bc = (o, r) ∧ f_X6_get a0 a1 Th Ce = (r', th) ∧ (o = 0 ∨ o = 1 ∨ o = 2) ∧ th = k_L_get o ∧ (o = 0 → r = r') := by
  unfold S_X5_get S_X6_get f_X5_get f_X6_get
  rcases kin4 a0 with ⟨k, hk, rfl, e1, e2⟩ | ⟨e1, e2⟩
  · rcases reg a1 with ⟨r, hr, rfl, e3, e4⟩ | ⟨e3, e4⟩
    · have hw := wd_le hk
      have hl := hm_le hk hr
      have x1 : (21 : Int32) * ((32 : Int32) * nI k + nI r) = nI (21 * (32 * k + r)) := by
        rw [show (32 : Int32) = nI 32 from rfl, show (21 : Int32) = nI 21 from rfl, pk_mul, nI_add, pk_mul]
      simp only [e1, e2, e3, e4, ne10, if_true, if_false, homeN hk, x1]
      have c1 : (nI (hm k + r * wd k)).toNatClampNeg = hm k + r * wd k := clN (by omega)
      have c2 : (nI (21 * (32 * k + r))).toNatClampNeg = 21 * (32 * k + r) := clN (by omega)
      refine ⟨fun u1 _ _ u3 _ _ => ⟨S_homeN hk _, vin (by omega) (by omega), True.intro⟩, ⟨fun _ => True.intro, fun _ => ⟨fun _ => True.intro, fun _ => ⟨vin (by omega) (by omega), True.intro⟩⟩⟩, 0, _, _, 0, rfl, rfl, Or.inl rfl, rfl, fun _ => ?_⟩
      rw [c1, c2]
      have := (h k r hk hr).2 0 (by omega)
      simpa using this
    · simp only [e1, e2, e3, e4, ne10, if_true, if_false]
      exact ⟨fun u1 _ _ u3 hu h3 => absurd h3 (by rw [hu]; decide), ⟨fun _ => True.intro, fun _ => ⟨fun _ => True.intro, fun z => absurd trivial z⟩⟩, 2, 0, 0, 2, by rw [if_neg (by decide)], rfl, Or.inr (Or.inr rfl), rfl, fun z => absurd z (by decide)⟩
  · simp only [e1, e2, if_true, if_false]
    exact ⟨fun u1 hu h1 => absurd h1 (by rw [hu]; decide), ⟨fun _ => True.intro, fun z => absurd trivial z⟩, 1, 0, 0, 1, by rw [if_neg (by decide)], rfl, Or.inr (Or.inl rfl), rfl, fun z => absurd z (by decide)⟩

end
section
theorem home2 (r : Nat) : f_X0_home (2 : Int32) (nI r) = nI (64 + r * 5) := homeN (k := 2) (by omega)
theorem home3 (r : Nat) : f_X0_home (3 : Int32) (nI r) = nI (224 + r * 21) := homeN (k := 3) (by omega)
theorem home4 (r : Nat) : f_X0_home (4 : Int32) (nI r) = nI (896 + r * 1) := homeN (k := 4) (by omega)
theorem sixN (a r : Nat) : (21 : Int32) * (nI a + nI r) = nI (21 * (a + r)) := by rw [show (21 : Int32) = nI 21 from rfl, nI_add, pk_mul]
theorem ixN (a : Int32) (n : Nat) (hn : n < 2147483648) : a < 0 ∨ nI n ≤ a ∨ ∃ j : Nat, j < n ∧ a = nI j := pk_ix a (by omega)
theorem nolt {n : Nat} (h : n < 2147483648) : ¬ nI n < 0 := nI_pos (by omega)
theorem r_part {Bc Ce : Nat → Int64} (h : RV Bc Ce) (a0 a1 Th : Int32) :
    S_X5_part a0 a1 Bc ∧ S_X6_part a0 a1 Th Ce ∧ ∃ (o : Nat) (r r' : Int64) (th : Int32), f_X5_part a0 a1 Bc = (o, r) ∧ f_X6_part a0 a1 Th Ce = (r', th) ∧ (o = 0 ∨ o = 2) ∧ th = k_L_part o ∧ (o = 0 → r = r') := by
  unfold S_X5_part S_X6_part f_X5_part f_X6_part
  rw [in_eq]
  rcases reg a0 with ⟨r, hr, rfl, e3, e4⟩ | ⟨e3, e4⟩
  · rcases win a1.toInt64 0 4 with ⟨e5, b1, b2⟩ | ⟨e5, b5⟩
    · rw [i3264] at b1 b2
      obtain ⟨j, hj, rfl⟩ := nIr (a := a1) (n := 4) b1 b2 (by omega)
      have x1 : (21 : Int32) * ((64 : Int32) + nI r) = nI (21 * (64 + r)) := sixN 64 r
      simp only [e3, e4, e5, ne10, if_true, if_false, home2, x1, nI_add]
      have c1 : (nI (64 + r * 5 + j)).toNatClampNeg = 64 + r * 5 + j := clN (by omega)
      have c2 : (nI (21 * (64 + r) + j)).toNatClampNeg = 21 * (64 + r) + j := clN (by omega)
      refine ⟨fun u1 _ _ => ⟨fun _ => True.intro, fun _ => ⟨S_homeN (k := 2) (by omega) _, vin (by omega) (by omega), True.intro⟩⟩, ⟨fun _ => True.intro, fun _ => ⟨fun _ => True.intro, fun _ => ⟨vin (by omega) (by omega), True.intro⟩⟩⟩, 0, _, _, 0, rfl, rfl, Or.inl rfl, rfl, fun _ => ?_⟩
      rw [c1, c2]
      exact (h 2 r (by omega) hr).2 j (by have : wd 2 = 5 := rfl; omega)
    · simp only [e3, e4, e5, ne10, if_true, if_false]
      exact ⟨fun u1 _ _ => ⟨fun _ => True.intro, fun z => absurd trivial z⟩, ⟨fun _ => True.intro, fun _ => ⟨fun _ => True.intro, fun z => absurd trivial z⟩⟩, 2, 0, 0, 1, rfl, rfl, Or.inr rfl, rfl, fun z => absurd z (by decide)⟩
  · simp only [e3, e4, if_true, if_false]
    exact ⟨fun u1 hu h1 => absurd h1 (by rw [hu]; decide), ⟨fun _ => True.intro, fun z => absurd trivial z⟩, 2, 0, 0, 1, by rw [if_neg (by decide)], rfl, Or.inr rfl, rfl, fun z => absurd z (by decide)⟩
theorem r_at {Bc Ce : Nat → Int64} (h : RV Bc Ce) (a0 a1 Th : Int32) :
    S_X5_at a0 a1 Bc ∧ S_X6_at a0 a1 Th Ce ∧ ∃ (o : Nat) (r r' : Int32) (th : Int32), f_X5_at a0 a1 Bc = (o, r) ∧ f_X6_at a0 a1 Th Ce = (r', th) ∧ (o = 0 ∨ o = 2) ∧ th = k_L_at o ∧ (o = 0 → r = r') := by
  unfold S_X5_at S_X6_at f_X5_at f_X6_at
  rcases reg a0 with ⟨r, hr, rfl, e3, e4⟩ | ⟨e3, e4⟩
  · obtain ⟨n, hn, hv⟩ := (h 3 r (by omega) hr).1.2.2.2.1 rfl
    have hv : Ce (21 * (96 + r)) = lN n := hv
    have hb : Bc (224 + r * 21) = lN n := ((h 3 r (by omega) hr).2 0 (by decide)).trans hv
    have c1 : (nI (224 + r * 21)).toNatClampNeg = 224 + r * 21 := clN (by omega)
    have c2 : (nI (21 * (96 + r))).toNatClampNeg = 21 * (96 + r) := clN (by omega)
    simp only [e3, e4, ne10, if_true, if_false, home3, sixN 96 r, show (96 : Int32) = nI 96 from rfl, c1, c2, hb, hv]
    rcases ixN a1 20 (by omega) with h1 | h1 | ⟨j, hj, rfl⟩
    · simp only [h1, if_true]
      exact ⟨fun u1 _ _ => ⟨S_homeN (k := 3) (by omega) _, fun _ => True.intro, fun z => absurd trivial z⟩, ⟨fun z => absurd z (by decide), fun _ => ⟨fun _ => True.intro, fun z => absurd trivial z⟩⟩, 2, 0, 0, 1, rfl, rfl, Or.inr rfl, rfl, fun z => absurd z (by decide)⟩
    · have h2 : ¬ a1 < 0 := fun z => by
        rw [i32lt] at z; rw [i32le, nI_toInt (by omega)] at h1; have e0 : (0 : Int32).toInt = 0 := rfl; omega
      have h3 : lN n ≤ a1.toInt64 := by
        rw [i64le, i3264, lN_toInt (by omega)]; rw [i32le, nI_toInt (by omega)] at h1; omega
      have h1' : (20 : Int32) ≤ a1 := h1
      simp only [h2, h1', h3, if_true, if_false]
      exact ⟨fun u1 _ _ => ⟨S_homeN (k := 3) (by omega) _, fun z => absurd z (by decide), fun _ => ⟨fun _ => True.intro, fun z => absurd trivial z⟩⟩, ⟨fun z => absurd z (by decide), fun _ => ⟨fun _ => True.intro, fun _ => ⟨vin (by omega) (by omega), fun _ => True.intro, fun z => absurd trivial z⟩⟩⟩, 2, 0, 0, 1, rfl, rfl, Or.inr rfl, rfl, fun z => absurd z (by decide)⟩
    · have h2 : ¬ nI j < 0 := nolt (by omega)
      have h1' : ¬ (20 : Int32) ≤ nI j := fun z => by have := (nI_leI (a := 20) (b := j) (by omega) (by omega)).mp z; omega
      have e5 : (nI j).toInt64 = lN j := nI_l (by omega)
      simp only [h2, h1', if_false, e5, nI_1, nI_add]
      by_cases hc : j < n
      · have h3 : lN j < lN n := (lN_lt (by omega) (by omega)).mpr hc
        have h4 : ¬ lN n ≤ lN j := fun z => by have := (lN_le (by omega) (by omega)).mp z; omega
        simp only [h3, h4, if_true, if_false]
        refine ⟨fun u1 _ _ => ⟨S_homeN (k := 3) (by omega) _, fun _ => True.intro, fun _ => ⟨fun _ => True.intro, fun _ => ⟨vin (by omega) (by omega), fun _ => ⟨vin (by omega) (by omega), True.intro⟩, fun _ => True.intro⟩⟩⟩, ⟨fun z => absurd z (by decide), fun _ => ⟨fun _ => True.intro, fun _ => ⟨vin (by omega) (by omega), fun _ => True.intro, fun _ => ⟨vin (by omega) (by omega), True.intro⟩⟩⟩⟩, 0, _, _, 0, rfl, rfl, Or.inl rfl, rfl, fun _ => ?_⟩
        rw [clN (by omega), clN (by omega)]
        have h5 := (h 3 r (by omega) hr).2 (1 + j) (by have : wd 3 = 21 := rfl; omega)
        have h6 : Bc (224 + r * 21 + (1 + j)) = Ce (21 * (96 + r) + (1 + j)) := h5
        have e9 : 224 + r * 21 + 1 + j = 224 + r * 21 + (1 + j) := by omega
        have e10 : 21 * (96 + r) + 1 + j = 21 * (96 + r) + (1 + j) := by omega
        rw [e9, e10, h6]
      · have h3 : ¬ lN j < lN n := fun z => hc ((lN_lt (by omega) (by omega)).mp z)
        have h4 : lN n ≤ lN j := (lN_le (by omega) (by omega)).mpr (by omega)
        simp only [h3, h4, if_true, if_false]
        exact ⟨fun u1 _ _ => ⟨S_homeN (k := 3) (by omega) _, fun _ => True.intro, fun _ => ⟨fun _ => True.intro, fun _ => ⟨vin (by omega) (by omega), fun z => absurd z (by decide), fun _ => True.intro⟩⟩⟩, ⟨fun z => absurd z (by decide), fun _ => ⟨fun _ => True.intro, fun _ => ⟨vin (by omega) (by omega), fun _ => True.intro, fun z => absurd trivial z⟩⟩⟩, 2, 0, 0, 1, rfl, rfl, Or.inr rfl, rfl, fun z => absurd z (by decide)⟩
  · simp only [e3, e4, if_true, if_false]
    exact ⟨fun u1 hu h1 => absurd h1 (by rw [hu]; decide), ⟨fun _ => True.intro, fun z => absurd trivial z⟩, 2, 0, 0, 1, by rw [if_neg (by decide)], rfl, Or.inr rfl, rfl, fun z => absurd z (by decide)⟩
theorem cell_apart {k q j k' r j' : Nat} (hk : k < 5) (hq : q < 32) (hj : j < wd k) (hk' : k' < 5) (hr : r < 32) (hj' : j' < wd k') (e : hm k + q * wd k + j = hm k' + r * wd k' + j') : k = k' ∧ q = r ∧ j = j' := by
  rcases (show k = 0 ∨ k = 1 ∨ k = 2 ∨ k = 3 ∨ k = 4 by omega) with rfl | rfl | rfl | rfl | rfl <;> rcases (show k' = 0 ∨ k' = 1 ∨ k' = 2 ∨ k' = 3 ∨ k' = 4 by omega) with rfl | rfl | rfl | rfl | rfl <;> simp only [hm, wd, List.getD_cons_zero, List.getD_cons_succ] at * <;> refine ⟨?_, ?_, ?_⟩ <;> first | trivial | omega
theorem RV_take {Bc Ce : Nat → Int64} (h : RV Bc Ce) {r : Nat} (hr : r < 32) : RV (vp_updL Bc (896 + r * 1) (-1)) (vp_updL Ce (21 * (128 + r)) (-1)) := by
  intro k q hk hq
  have hw := wd_le hk
  have hl := hm_le hk hq
  by_cases hc : k = 4 ∧ q = r
  · obtain ⟨rfl, rfl⟩ := hc
    refine ⟨⟨fun z => absurd z (by decide), fun z => absurd z (by decide), fun z => absurd z (by decide), fun z => absurd z (by decide), fun _ => ?_⟩, fun j hj => ?_⟩
    · simp only [uL]
      rw [if_pos (by omega)]
      decide
    · have : wd 4 = 1 := rfl
      have h4 : hm 4 = 896 := rfl
      simp only [uL]
      rw [if_pos (by rw [h4, this]; omega), if_pos (by omega)]
  · have e1 : ∀ j, j < 21 → ¬ 21 * (32 * k + q) + j = 21 * (128 + r) := fun j hj z => hc ⟨by omega, by omega⟩
    have e2 : ∀ j, j < wd k → ¬ hm k + q * wd k + j = 896 + r * 1 := fun j hj z => by
      have z2 := cell_apart (k' := 4) (r := r) (j' := 0) hk hq hj (by omega) hr (by decide) z
      exact hc ⟨z2.1, z2.2.1⟩
    refine ⟨(h k q hk hq).1.cong hk (fun j hj => ?_), fun j hj => ?_⟩
    · simp only [uL]
      rw [if_neg (e1 j (by omega))]
    · simp only [uL]
      rw [if_neg (e2 j hj), if_neg (e1 j (by omega))]
      exact (h k q hk hq).2 j hj
theorem r_take {Bc Ce : Nat → Int64} (h : RV Bc Ce) (a0 Th : Int32) :
    S_X5_take a0 Bc ∧ S_X6_take a0 Th Ce ∧ ∃ (o : Nat) (r r' th : Int32) (Bc' Ce' : Nat → Int64), f_X5_take a0 Bc = (o, r, Bc') ∧ f_X6_take a0 Th Ce = (r', th, Ce') ∧ (o = 0 ∨ o = 2) ∧ th = k_L_take o ∧ (o = 0 → r = r') ∧ RV Bc' Ce' := by
  unfold S_X5_take S_X6_take f_X5_take f_X6_take
  rcases reg a0 with ⟨r, hr, rfl, e3, e4⟩ | ⟨e3, e4⟩
  · have x1 : (21 : Int32) * ((128 : Int32) + nI r) = nI (21 * (128 + r)) := sixN 128 r
    have c1 : (nI (896 + r * 1)).toNatClampNeg = 896 + r * 1 := clN (by omega)
    have c2 : (nI (21 * (128 + r))).toNatClampNeg = 21 * (128 + r) := clN (by omega)
    have hv : Bc (896 + r * 1) = Ce (21 * (128 + r)) := (h 4 r (by omega) hr).2 0 (by decide)
    simp only [e3, e4, ne10, if_true, if_false, home4, x1, c1, c2, hv]
    refine ⟨fun u1 _ _ => ⟨S_homeN (k := 4) (by omega) _, vin (by omega) (by omega), vin (by omega) (by omega), fun _ => True.intro, fun _ => True.intro⟩, ⟨fun _ => True.intro, fun _ => ⟨vin (by omega) (by omega), vin (by omega) (by omega), True.intro⟩⟩, ?_⟩
    by_cases hc : (Ce (21 * (128 + r))).toInt32 = -1
    · exact ⟨0, -1, -1, 0, _, _, by rw [if_pos hc], by rw [hc], Or.inl rfl, rfl, fun _ => rfl, RV_take h hr⟩
    · exact ⟨0, _, _, 0, _, _, by rw [if_neg hc], rfl, Or.inl rfl, rfl, fun _ => rfl, RV_take h hr⟩
  · simp only [e3, e4, if_true, if_false]
    exact ⟨fun u1 hu h1 => absurd h1 (by rw [hu]; decide), ⟨fun _ => True.intro, fun z => absurd trivial z⟩, 2, 0, 0, 1, Bc, Ce, by rw [if_neg (by decide)], rfl, Or.inr rfl, rfl, fun z => absurd z (by decide), h⟩
theorem tld (a : Int32) : (f_X6_in a.toInt64 0 1 = 1 ∧ (a = 0 ∨ a = 1) ∧ f_X5_within a.toInt64 10 14 = 0) ∨ (f_X6_in a.toInt64 0 1 = 0 ∧ ¬ a = 0 ∧ ¬ a = 1) := by
  rw [in_eq]
  rcases win a.toInt64 0 1 with ⟨e, b1, b2⟩ | ⟨e, b⟩
  · rw [i3264] at b1 b2
    obtain ⟨j, hj, rfl⟩ := nIr (a := a) (n := 1) b1 b2 (by omega)
    refine Or.inl ⟨e, ?_, w0 ?_⟩
    · rcases (show j = 0 ∨ j = 1 by omega) with rfl | rfl
      · exact Or.inl rfl
      · exact Or.inr rfl
    · rw [i3264, nI_toInt (by omega)]
      have : (10 : Int64).toInt = 10 := rfl
      omega
  · rw [i3264] at b
    refine Or.inr ⟨e, fun z => b (by rw [z]; decide), fun z => b (by rw [z]; decide)⟩
theorem r_told {d K : Nat} {Bl Le : Nat → Int32} (h : ∀ q, q < 160 → Bl q = Le q) (a0 a1 Th : Int32) :
    S_X5_told a0 a1 Bl (nI K) (nI d) ∧ S_X6_told a0 a1 Th Le (nI d) (nI K) ∧ ∃ (o : Nat) (r r' th : Int32), f_X5_told a0 a1 Bl (nI K) (nI d) = (o, r) ∧ f_X6_told a0 a1 Th Le (nI d) (nI K) = (r', th) ∧ (o = 0 ∨ o = 1 ∨ o = 2) ∧ th = k_L_told o ∧ (o = 0 → r = r') := by
  unfold S_X5_told S_X6_told f_X5_told f_X6_told
  rcases tld a0 with ⟨e1, ha, e2⟩ | ⟨e1, n0, n1⟩
  · rw [in_eq] at *
    simp only [e1, e2, ne10, if_false, if_true]
    rcases ha with rfl | rfl
    · simp only [if_true]
      exact ⟨⟨fun _ => True.intro, fun z => absurd trivial z⟩, ⟨fun z => absurd z (by decide), fun _ => ⟨fun _ => ⟨fun _ => True.intro, fun _ => True.intro⟩, fun z => absurd trivial z⟩⟩, 0, _, _, 0, rfl, rfl, Or.inl rfl, rfl, fun _ => rfl⟩
    · simp only [ne10, if_true, if_false]
      exact ⟨⟨fun _ => True.intro, fun _ => ⟨fun _ => True.intro, fun z => absurd trivial z⟩⟩, ⟨fun z => absurd z (by decide), fun _ => ⟨fun _ => ⟨fun _ => True.intro, fun _ => True.intro⟩, fun z => absurd trivial z⟩⟩, 0, _, _, 0, rfl, rfl, Or.inl rfl, rfl, fun _ => rfl⟩
  · rw [in_eq] at *
    simp only [e1, n0, n1, if_false, if_true]
    rcases win a0.toInt64 10 14 with ⟨e3, b1, b2⟩ | ⟨e3, b⟩
    · rw [i3264] at b1 b2
      have l1 : (10 : Int64).toInt = 10 := rfl
      have l2 : (14 : Int64).toInt = 14 := rfl
      obtain ⟨t, ht, rfl⟩ := nIr (a := a0) (n := 14) (by omega) (by omega) (by omega)
      rw [nI_toInt (by omega)] at b1 b2
      have x0 : nI t - (10 : Int32) = nI (t - 10) := pk_sub (b := 10) (by omega)
      rcases reg a1 with ⟨r, hr, rfl, e5, e6⟩ | ⟨e5, e6⟩
      · have x1 : (32 : Int32) * nI (t - 10) + nI r = nI (32 * (t - 10) + r) := by rw [show (32 : Int32) = nI 32 from rfl, pk_mul, nI_add]
        simp only [e3, e5, e6, ne10, if_false, if_true, x0, x1, placeN]
        have c1 : (nI (32 * (t - 10) + r)).toNatClampNeg = 32 * (t - 10) + r := clN (by omega)
        refine ⟨⟨fun _ => True.intro, fun _ => ⟨fun _ => True.intro, fun _ => ⟨fun _ => True.intro, fun _ u4 _ _ => ⟨vin (by omega) (by omega), True.intro⟩⟩⟩⟩, ⟨fun _ => ⟨fun _ => True.intro, fun _ => ⟨fun _ => True.intro, fun _ => ⟨vin (by omega) (by omega), True.intro⟩⟩⟩, fun z => absurd trivial z⟩, 0, _, _, 0, rfl, rfl, Or.inl rfl, rfl, fun _ => ?_⟩
        rw [c1]
        exact h _ (by omega)
      · simp only [e3, e5, e6, ne10, if_false, if_true]
        exact ⟨⟨fun z => absurd z (by decide), fun _ => ⟨fun _ => True.intro, fun _ => ⟨fun _ => True.intro, fun _ u4 hu h4 => absurd h4 (by rw [hu]; decide)⟩⟩⟩, ⟨fun _ => ⟨fun _ => True.intro, fun _ => ⟨fun _ => True.intro, fun z => absurd trivial z⟩⟩, fun z => absurd trivial z⟩, 2, 0, 0, 2, by rw [if_neg (by decide)], rfl, Or.inr (Or.inr rfl), rfl, fun z => absurd z (by decide)⟩
    · simp only [e3, if_true]
      exact ⟨⟨fun _ => True.intro, fun _ => ⟨fun _ => True.intro, fun _ => ⟨fun _ => True.intro, fun z => absurd trivial z⟩⟩⟩, ⟨fun _ => ⟨fun _ => True.intro, fun z => absurd trivial z⟩, fun z => absurd trivial z⟩, 1, 0, 0, 1, rfl, rfl, Or.inr (Or.inl rfl), rfl, fun z => absurd z (by decide)⟩
theorem r_group {d K T : Nat} {Gf Gt Kd Td : Nat → Int32} (hd : d ≤ 20) (hK : K ≤ 200) (hT : T ≤ 60) (h1 : RD d K Gf Kd) (h2 : RD d T Gt Td) (Th : Int32) :
    S_X5_group (nI K) Gf Gt (nI d) (nI T) ∧ ∃ (o : Nat) (r r' th : Int32) (Gf' Gt' : Nat → Int32) (d' : Nat), f_X5_group (nI K) Gf Gt (nI d) (nI T) = (o, r, Gf', Gt', nI d') ∧ f_X6_group Th (nI d) = (r', th, nI d') ∧ (o = 0 ∨ o = 3) ∧ th = k_L_group o ∧ (o = 0 → r = r') ∧ d' ≤ 20 ∧ RD d' K Gf' Kd ∧ RD d' T Gt' Td := by
  have e1 : ¬ nI d < 0 := nolt (by omega)
  have i1 : (nI d < 20) ↔ d < 20 := nI_ltI (b := 20) (by omega) (by omega)
  have i2 : (nI d = 20) ↔ d = 20 := nI_eq (b := 20) (by omega) (by omega)
  have i3 : ((20 : Int32) ≤ nI d) ↔ 20 ≤ d := nI_leI (a := 20) (by omega) (by omega)
  unfold S_X5_group f_X5_group f_X6_group S_X2_open f_X2_open
  by_cases hc : d = 20
  · have hn : ¬ nI d < 20 := fun z => by have := i1.mp z; omega
    have he : nI d = 20 := i2.mpr hc
    refine ⟨⟨fun _ => True.intro, fun _ => ⟨fun z => absurd z hn, fun _ => True.intro⟩⟩, 3, 0, 0, 1, Gf, Gt, d, ?_, ?_, Or.inr rfl, rfl, fun z => absurd z (by decide), hd, h1, h2⟩
    · rw [if_neg e1, if_neg hn]
    · rw [if_pos he]
  · have hp : nI d < 20 := i1.mpr (by omega)
    have hn : ¬ (20 : Int32) ≤ nI d := fun z => by have := i3.mp z; omega
    have hne : ¬ nI d = 20 := fun z => hc (i2.mp z)
    have c1 : (nI d).toNatClampNeg = d := clN (by omega)
    have c2 : nI d + 1 = nI (d + 1) := (nI_succ d).symm
    refine ⟨⟨fun z => absurd z e1, fun _ => ⟨fun _ => ⟨⟨fun z => absurd z e1, fun _ => ⟨fun z => absurd z hn, fun _ => ⟨vin (by omega) (by omega), vin (by omega) (by omega), True.intro⟩⟩⟩, fun _ _ => True.intro⟩, fun z => absurd hp z⟩⟩, 0, nI (d + 1), nI (d + 1), 0, upd Gf d (nI K), upd Gt d (nI T), d + 1, ?_, ?_, Or.inl rfl, rfl, fun _ => rfl, by omega, ?_, ?_⟩
    · simp only [if_neg e1, if_pos hp, if_neg hn, c1, c2]
    · rw [if_neg hne, c2]
    · obtain ⟨gf, dp, g1, g2⟩ := h1
      refine ⟨fun i => if i = d then K else gf i, dp, fun q hq => ⟨(g1 q hq).1, (g1 q hq).2.1, by have := (g1 q hq).2.2; omega⟩, fun i hi => ?_⟩
      by_cases z : i = d
      · subst z
        refine ⟨by simp only [uI, if_true], by simp only [if_true]; exact Nat.le_refl _, fun q hq => ?_⟩
        simp only [if_true]
        have := (g1 q hq).2.2
        omega
      · simp only [uI, if_neg z]
        exact g2 i (by omega)
    · obtain ⟨gf, dp, g1, g2⟩ := h2
      refine ⟨fun i => if i = d then T else gf i, dp, fun q hq => ⟨(g1 q hq).1, (g1 q hq).2.1, by have := (g1 q hq).2.2; omega⟩, fun i hi => ?_⟩
      by_cases z : i = d
      · subst z
        refine ⟨by simp only [uI, if_true], by simp only [if_true]; exact Nat.le_refl _, fun q hq => ?_⟩
        simp only [if_true]
        have := (g1 q hq).2.2
        omega
      · simp only [uI, if_neg z]
        exact g2 i (by omega)

end
section
theorem checkTok (a : Int32) : (f_X5_checkToken a = 0 ∧ f_X5_within a.toInt64 0 255 = 1) ∨ (f_X5_checkToken a = 1 ∧ f_X5_within a.toInt64 0 255 = 0) := by
  unfold f_X5_checkToken
  rcases win a.toInt64 0 255 with ⟨e, -⟩ | ⟨e, -⟩
  · exact Or.inl ⟨by rw [e, if_neg ne10], e⟩
  · exact Or.inr ⟨by rw [e, if_pos rfl], e⟩
/-- how many of a row are told at a depth -/
theorem L_aft {n g d : Nat} {Td : Nat → Int32} (hn : n ≤ 60) (hd : d ≤ 20) (hg : g ≤ n) (h : ∀ q, q < n → (Td q = nI d ↔ g ≤ q)) :
    ∀ (m x c : Nat), x ≤ n → n - x < m → SL_X6_after_91 m (nI c) (nI x) (nI d) (nI n) Td ∧ (L_X6_after_91 m (nI c) (nI x) (nI d) (nI n) Td).1 = nI (c + (n - max g x)) := by
  intro m
  induction m with
  | zero => intro x c hx hm; exact absurd hm (Nat.not_lt_zero _)
  | succ m ih =>
    intro x c hx hm
    have i1 : (nI n ≤ nI x) ↔ n ≤ x := nI_leI (by omega) (by omega)
    have c1 : (nI x).toNatClampNeg = x := clN (by omega)
    have c2 : nI x + 1 = nI (x + 1) := (nI_succ x).symm
    have c3 : nI c + 1 = nI (c + 1) := (nI_succ c).symm
    rw [SL_X6_after_91, L_X6_after_91]
    by_cases hc : n ≤ x
    · rw [if_pos (i1.mpr hc)]
      refine ⟨⟨fun _ => True.intro, fun z => absurd (i1.mpr hc) z⟩, ?_⟩
      show nI c = _
      congr 1
      omega
    · have hn' : ¬ nI n ≤ nI x := fun z => hc (i1.mp z)
      rw [if_neg hn', c1, c2, c3]
      by_cases hq : Td x = nI d
      · rw [if_pos hq]
        obtain ⟨s1, s2⟩ := ih (x + 1) (c + 1) (by omega) (by omega)
        refine ⟨⟨fun z => absurd z hn', fun _ => ⟨vin (by omega) (by omega), fun _ => s1, fun z => absurd hq z⟩⟩, ?_⟩
        rw [s2]
        have := (h x (by omega)).mp hq
        congr 1
        omega
      · rw [if_neg hq]
        obtain ⟨s1, s2⟩ := ih (x + 1) c (by omega) (by omega)
        refine ⟨⟨fun z => absurd z hn', fun _ => ⟨vin (by omega) (by omega), fun z => absurd z hq, fun _ => s1⟩⟩, ?_⟩
        rw [s2]
        have : ¬ g ≤ x := fun z => hq ((h x (by omega)).mpr z)
        congr 1
        omega
theorem RD_first {d n : Nat} {Gf Kd : Nat → Int32} (h : RD d n Gf Kd) (hd : 0 < d) : ∃ g, g ≤ n ∧ Gf (d - 1) = nI g ∧ ∀ q, q < n → ∃ e, Kd q = nI e ∧ 1 ≤ e ∧ e ≤ d ∧ (g ≤ q ↔ e = d) := by
  obtain ⟨gf, dp, g1, g2⟩ := h
  obtain ⟨h1, h2, h3⟩ := g2 (d - 1) (by omega)
  refine ⟨gf (d - 1), h2, h1, fun q hq => ⟨dp q, (g1 q hq).1, (g1 q hq).2.1, (g1 q hq).2.2, ?_⟩⟩
  have h4 := h3 q hq
  have h5 := (g1 q hq).2.2
  omega
/-- one more, told at the depth that is -/
theorem RD_push {d n : Nat} {Gf Kd : Nat → Int32} (h : RD d n Gf Kd) (hd : 0 < d) : RD d (n + 1) Gf (upd Kd n (nI d)) := by
  obtain ⟨gf, dp, g1, g2⟩ := h
  refine ⟨gf, fun q => if q = n then d else dp q, fun q hq => ?_, fun i hi => ?_⟩
  · by_cases z : q = n
    · simp only [uI, if_pos z]
      exact ⟨trivial, by omega, Nat.le_refl _⟩
    · simp only [uI, if_neg z]
      exact g1 q (by omega)
  · obtain ⟨h1, h2, h3⟩ := g2 i hi
    refine ⟨h1, by omega, fun q hq => ?_⟩
    by_cases z : q = n
    · simp only [if_pos z]
      omega
    · simp only [if_neg z]
      exact h3 q (by omega)
theorem RD_pop {d n : Nat} {Gf Kd : Nat → Int32} (h : RD d n Gf Kd) (hd : 0 < d) {g : Nat} (hn : n < 2147483648) (hg : Gf (d - 1) = nI g) (hgn : g ≤ n) : RD (d - 1) g Gf Kd := by
  obtain ⟨gf, dp, g1, g2⟩ := h
  obtain ⟨h1, h2, h3⟩ := g2 (d - 1) (by omega)
  have e : gf (d - 1) = g := (nI_eq (by omega) (by omega)).mp (h1.symm.trans hg)
  rw [e] at h3
  refine ⟨gf, dp, fun q hq => ?_, fun i hi => ?_⟩
  · obtain ⟨k1, k2, k3⟩ := g1 q (by omega)
    have := h3 q (by omega)
    exact ⟨k1, k2, by omega⟩
  · obtain ⟨k1, k2, k3⟩ := g2 i (by omega)
    refine ⟨k1, ?_, fun q hq => k3 q (by omega)⟩
    rcases Nat.lt_or_ge g (gf i) with z | z
    · exfalso
      have a1 := (h3 g (by omega)).mp (Nat.le_refl _)
      have a2 := (k3 g (by omega)).mpr (by omega)
      omega
    · exact z
theorem r_after {d T : Nat} {Gt Gx Tt Td : Nat → Int32} (hd : d ≤ 20) (hT : T ≤ 60) (h2 : RD d T Gt Td) (h3 : ∀ q, q < T → Gx q = Tt q) (a0 Th : Int32) :
    S_X5_after a0 Gt Gx (nI d) (nI T) ∧ S_X6_after a0 Th (nI d) (nI T) Tt Td ∧ ∃ (o : Nat) (r r' th : Int32) (Gx' Tt' Td' : Nat → Int32) (T' : Nat), f_X5_after a0 Gt Gx (nI d) (nI T) = (o, r, Gx', nI T') ∧ f_X6_after a0 Th (nI d) (nI T) Tt Td = (r', th, nI T', Tt', Td') ∧ (o = 0 ∨ o = 1 ∨ o = 4 ∨ o = 3) ∧ th = k_L_after o ∧ (o = 0 → r = r') ∧ T' ≤ 60 ∧ RD d T' Gt Td' ∧ (∀ q, q < T' → Gx' q = Tt' q) := by
  have t1 : ¬ nI T < 0 := nolt (by omega)
  have i1 : (nI T < 60) ↔ T < 60 := nI_ltI (b := 60) (by omega) (by omega)
  have i2 : (nI T = 60) ↔ T = 60 := nI_eq (b := 60) (by omega) (by omega)
  have i3 : ((60 : Int32) ≤ nI T) ↔ 60 ≤ T := nI_leI (a := 60) (by omega) (by omega)
  have i4 : (0 < nI d) ↔ 0 < d := nI_ltI (a := 0) (by omega) (by omega)
  have i5 : (nI d = 0) ↔ d = 0 := nI_eq (b := 0) (by omega) (by omega)
  have i6 : (nI d ≤ 0) ↔ d ≤ 0 := nI_leI (b := 0) (by omega) (by omega)
  have i7 : ((20 : Int32) < nI d) ↔ 20 < d := nI_ltI (a := 20) (by omega) (by omega)
  unfold S_X5_after S_X6_after f_X5_after f_X6_after S_X2_append S_X2_firstToken f_X2_append f_X2_firstToken
  rw [in_eq]
  rcases checkTok a0 with ⟨e1, e2⟩ | ⟨e1, e2⟩
  · simp only [e1, e2, ne10, if_false, if_true]
    by_cases hd0 : d = 0
    · have n4 : ¬ 0 < nI d := fun z => by have := i4.mp z; omega
      have n5 := i5.mpr hd0
      simp only [n4, n5, if_false, if_true]
      exact ⟨fun u1 _ _ => ⟨fun z => absurd z (by simp), fun _ => True.intro⟩, ⟨fun z => absurd z (by decide), fun _ => ⟨fun _ => True.intro, fun z => absurd trivial z⟩⟩, 4, 0, 0, 2, Gx, Tt, Td, T, rfl, rfl, Or.inr (Or.inr (Or.inl rfl)), rfl, fun z => absurd z (by decide), hT, h2, h3⟩
    · have n4 : 0 < nI d := i4.mpr (by omega)
      have n5 : ¬ nI d = 0 := fun z => hd0 (i5.mp z)
      have n6 : ¬ nI d ≤ 0 := fun z => by have := i6.mp z; omega
      have n7 : ¬ (20 : Int32) < nI d := fun z => by have := i7.mp z; omega
      by_cases hT0 : T = 60
      · have m1 : ¬ nI T < 60 := fun z => by have := i1.mp z; omega
        have m2 := i2.mpr hT0
        simp only [n4, n5, t1, m1, m2, if_false, if_true]
        exact ⟨fun u1 _ _ => ⟨fun _ => ⟨fun _ => True.intro, fun _ => ⟨fun z => absurd z (by simp), fun _ => True.intro⟩⟩, fun _ => True.intro⟩, ⟨fun z => absurd z (by decide), fun _ => ⟨fun _ => True.intro, fun _ => ⟨fun _ => True.intro, fun z => absurd trivial z⟩⟩⟩, 3, 0, 0, 3, Gx, Tt, Td, T, by rw [m2]; rfl, by rw [m2], Or.inr (Or.inr (Or.inr rfl)), rfl, fun z => absurd z (by decide), hT, h2, h3⟩
      · have m1 : nI T < 60 := i1.mpr (by omega)
        have m2 : ¬ nI T = 60 := fun z => hT0 (i2.mp z)
        have m3 : ¬ (60 : Int32) ≤ nI T := fun z => by have := i3.mp z; omega
        obtain ⟨g, g1, g2, g3⟩ := RD_first h2 (by omega)
        have c1 : (nI T).toNatClampNeg = T := clN (by omega)
        have c2 : nI T + 1 = nI (T + 1) := (nI_succ T).symm
        have c3 : nI d - 1 = nI (d - 1) := pk_sub (b := 1) (by omega)
        have c4 : (nI (d - 1)).toNatClampNeg = d - 1 := clN (by omega)
        have hfirst : ∀ q, q < T + 1 → (upd Td T (nI d) q = nI d ↔ g ≤ q) := by
          intro q hq
          by_cases z : q = T
          · simp only [uI, if_pos z]
            exact ⟨fun _ => by omega, fun _ => trivial⟩
          · simp only [uI, if_neg z]
            obtain ⟨e, k1, k2, k3, k4⟩ := g3 q (by omega)
            rw [k1, k4]
            exact nI_eq (by omega) (by omega)
        obtain ⟨s1, s2⟩ := L_aft (n := T + 1) (g := g) (d := d) (by omega) hd (by omega) hfirst 61 0 0 (by omega) (by omega)
        simp only [n4, n5, n6, n7, t1, m1, m2, m3, c1, c2, c3, c4, if_false, if_true]
        refine ⟨fun u1 _ _ => ⟨fun _ => ⟨fun z => absurd z (by simp), fun _ => ⟨fun _ => ⟨⟨fun z => absurd z (by simp), fun _ => ⟨fun z => absurd z (by simp), fun _ => ⟨vin (by omega) (by omega), True.intro⟩⟩⟩, fun u8 _ => ⟨⟨fun z => absurd z (by simp), fun _ => ⟨fun z => absurd z (by simp), fun _ => ⟨vin (by omega) (by omega), True.intro⟩⟩⟩, fun _ _ => True.intro⟩⟩, fun z => absurd trivial z⟩⟩, fun z => absurd trivial z⟩, ⟨fun z => absurd z (by decide), fun _ => ⟨fun z => absurd z (by simp), fun _ => ⟨fun z => absurd z (by simp), fun _ => ⟨vin (by omega) (by omega), vin (by omega) (by omega), s1, fun _ _ => True.intro⟩⟩⟩⟩, 0, _, _, 0, upd Gx T a0, upd Tt T a0, upd Td T (nI d), T + 1, rfl, rfl, Or.inl rfl, rfl, fun _ => ?_, by omega, RD_push h2 (by omega), fun q hq => ?_⟩
        · rw [g2, pk_sub (by omega)]
          have s3 : (L_X6_after_91 61 0 0 (nI d) (nI (T + 1)) (upd Td T (nI d))).1 = nI (0 + (T + 1 - max g 0)) := s2
          rw [s3]
          congr 1
          omega
        · by_cases z : q = T
          · simp only [uI, if_pos z]
          · simp only [uI, if_neg z]
            exact h3 q (by omega)
  · simp only [e1, e2, if_true, if_false]
    exact ⟨fun u1 hu h1 => absurd h1 (by rw [hu]; decide), ⟨fun _ => True.intro, fun z => absurd trivial z⟩, 1, 0, 0, 1, Gx, Tt, Td, T, by rw [if_neg (by decide)], rfl, Or.inr (Or.inl rfl), rfl, fun z => absurd z (by decide), hT, h2, h3⟩
theorem r_behind {B : Nat} {Ex Bt : Nat → Int32} (hB : B ≤ 60) (h : ∀ q, q < B → Ex q = Bt q) (a0 Th : Int32) :
    S_X5_behind a0 Ex (nI B) ∧ S_X6_behind a0 Th (nI B) Bt ∧ f_X6_behind a0 Th (nI B) Bt = (f_X5_behind a0 Ex (nI B), 0) := by
  unfold S_X5_behind S_X6_behind f_X5_behind f_X6_behind
  rcases ixN a0 B (by omega) with h1 | h1 | ⟨j, hj, rfl⟩
  · simp only [h1, if_true]
    exact ⟨⟨fun _ => True.intro, fun z => absurd trivial z⟩, ⟨fun _ => True.intro, fun z => absurd trivial z⟩, trivial⟩
  · have h2 : ¬ a0 < 0 := fun z => by
      rw [i32lt] at z; rw [i32le, nI_toInt (by omega)] at h1; have e0 : (0 : Int32).toInt = 0 := rfl; omega
    simp only [h1, h2, if_true, if_false]
    exact ⟨⟨fun z => z.elim, fun _ => ⟨fun _ => True.intro, fun z => absurd trivial z⟩⟩, ⟨fun z => z.elim, fun _ => ⟨fun _ => True.intro, fun z => absurd trivial z⟩⟩, trivial⟩
  · have h2 : ¬ nI j < 0 := nolt (by omega)
    have h3 : ¬ nI B ≤ nI j := fun z => by have := (nI_leI (by omega) (by omega)).mp z; omega
    have h4 : nI j < 60 := (nI_ltI (b := 60) (by omega) (by omega)).mpr (by omega)
    have c1 : (nI j).toNatClampNeg = j := clN (by omega)
    simp only [h2, h3, h4, c1, if_true, if_false]
    exact ⟨⟨fun z => z.elim, fun _ => ⟨fun z => z.elim, fun _ => ⟨fun _ => ⟨vin (by omega) (by omega), True.intro⟩, fun z => absurd trivial z⟩⟩⟩, ⟨fun z => z.elim, fun _ => ⟨fun z => z.elim, fun _ => ⟨vin (by omega) (by omega), True.intro⟩⟩⟩, by rw [h j hj]⟩
theorem gone_in {G : Nat} (hG : G ≤ 200) (a : Int32) : (∃ j, j < G ∧ a = nI j ∧ f_X5_within a.toInt64 0 ((nI G).toInt64 - 1) = 1) ∨ (f_X5_within a.toInt64 0 ((nI G).toInt64 - 1) = 0 ∧ (a < 0 ∨ nI G ≤ a)) := by
  have e : ((nI G).toInt64 - 1).toInt = (G : Int) - 1 := by
    rw [nI_l (by omega)]
    rcases Nat.eq_zero_or_pos G with z | z
    · subst z; rfl
    · rw [show (1 : Int64) = lN 1 from rfl, lN_sub (by omega), lN_toInt (by omega)]
      omega
  rcases win a.toInt64 0 ((nI G).toInt64 - 1) with ⟨h, b1, b2⟩ | ⟨h, b⟩
  · rw [i3264] at b1 b2
    rw [e] at b2
    have l0 : (0 : Int64).toInt = 0 := rfl
    obtain ⟨j, hj, rfl⟩ := nIr (a := a) (n := G - 1) (by omega) (by omega) (by omega)
    rw [nI_toInt (by omega)] at b2
    exact Or.inl ⟨j, by omega, rfl, h⟩
  · refine Or.inr ⟨h, ?_⟩
    rw [i3264, e] at b
    rcases ixN a G (by omega) with h1 | h1 | ⟨j, hj, rfl⟩
    · exact Or.inl h1
    · exact Or.inr h1
    · rw [nI_toInt (by omega)] at b
      have l0 : (0 : Int64).toInt = 0 := rfl
      exact absurd ⟨by omega, by omega⟩ b
theorem wh2 (a : Int32) : (f_X5_within a.toInt64 0 2 = 1 ∧ (a = 0 ∨ a = 1 ∨ a = 2)) ∨ f_X5_within a.toInt64 0 2 = 0 := by
  rcases win a.toInt64 0 2 with ⟨e, b1, b2⟩ | ⟨e, b⟩
  · rw [i3264] at b1 b2
    obtain ⟨j, hj, rfl⟩ := nIr (a := a) (n := 2) b1 b2 (by omega)
    refine Or.inl ⟨e, ?_⟩
    rcases (show j = 0 ∨ j = 1 ∨ j = 2 by omega) with rfl | rfl | rfl
    · exact Or.inl rfl
    · exact Or.inr (Or.inl rfl)
    · exact Or.inr (Or.inr rfl)
  · exact Or.inr e
theorem r_restored {G : Nat} {Ek Er Ea Gg Ga : Nat → Int32} (hG : G ≤ 200) (h : RE G Ek Er Ea Gg Ga) (a0 a1 Th : Int32) :
    S_X5_restored a0 a1 Ek Er Ea (nI G) ∧ S_X6_restored a0 a1 Th (nI G) Gg Ga ∧ ∃ (o : Nat) (r r' th : Int32), f_X5_restored a0 a1 Ek Er Ea (nI G) = (o, r) ∧ f_X6_restored a0 a1 Th (nI G) Gg Ga = (r', th) ∧ (o = 0 ∨ o = 2) ∧ th = k_L_restored o ∧ (o = 0 → r = r') := by
  unfold S_X5_restored S_X6_restored f_X5_restored f_X6_restored
  rw [in_eq]
  rcases gone_in hG a0 with ⟨j, hj, rfl, e1⟩ | ⟨e1, h1⟩
  · have h2 : ¬ nI j < 0 := nolt (by omega)
    have h3 : ¬ nI G ≤ nI j := fun z => by have := (nI_leI (by omega) (by omega)).mp z; omega
    have h4 : ¬ (200 : Int32) ≤ nI j := fun z => by have := (nI_leI (a := 200) (by omega) (by omega)).mp z; omega
    have c1 : (nI j).toNatClampNeg = j := clN (by omega)
    have hv : vp_in (nI j) 200 := vin (by omega) (by omega)
    obtain ⟨k, r, hk, hr, k1, k2, k3, k4⟩ := h j hj
    have d1 : nI (32 * k + r) / (32 : Int32) = nI k := by
      rw [show (32 : Int32) = nI 32 from rfl, pk_div (by omega) (by omega) (by omega)]
      congr 1; omega
    have d2 : nI (32 * k + r) - nI (32 * k + r) / (32 : Int32) * (32 : Int32) = nI r := by
      rw [show (32 : Int32) = nI 32 from rfl, pk_rem (by omega) (by omega) (by omega)]
      congr 1; omega
    rw [d1] at d2
    rcases wh2 a1 with ⟨e2, h5⟩ | e2
    · simp only [e1, e2, h2, h3, h4, c1, ne10, if_false, k1, k2, k3, k4, d1, d2]
      rcases h5 with rfl | rfl | rfl
      · simp only [if_true]
        exact ⟨⟨fun z => z.elim, fun _ => ⟨fun z => z.elim, fun _ => ⟨fun z => z.elim, fun _ => ⟨fun z => z.elim, fun _ => ⟨fun _ => ⟨hv, True.intro⟩, fun z => absurd trivial z⟩⟩⟩⟩⟩, ⟨fun z => z.elim, fun _ => ⟨fun z => z.elim, fun _ => ⟨fun _ => ⟨hv, True.intro⟩, fun z => absurd trivial z⟩⟩⟩, 0, _, _, 0, rfl, rfl, Or.inl rfl, rfl, fun _ => rfl⟩
      · simp only [ne10, if_true, if_false]
        exact ⟨⟨fun z => z.elim, fun _ => ⟨fun z => z.elim, fun _ => ⟨fun z => z.elim, fun _ => ⟨fun z => z.elim, fun _ => ⟨fun z => z.elim, fun _ => ⟨fun _ => ⟨hv, True.intro⟩, fun z => absurd trivial z⟩⟩⟩⟩⟩⟩, ⟨fun z => z.elim, fun _ => ⟨fun z => z.elim, fun _ => ⟨fun z => z.elim, fun _ => ⟨fun _ => ⟨hv, True.intro⟩, fun z => absurd trivial z⟩⟩⟩⟩, 0, _, _, 0, rfl, rfl, Or.inl rfl, rfl, fun _ => rfl⟩
      · simp only [show ¬ (2 : Int32) = 0 from by decide, show ¬ (2 : Int32) = 1 from by decide, if_false]
        exact ⟨⟨fun z => z.elim, fun _ => ⟨fun z => z.elim, fun _ => ⟨fun z => z.elim, fun _ => ⟨fun z => z.elim, fun _ => ⟨fun z => z.elim, fun _ => ⟨fun z => z.elim, fun _ => ⟨hv, True.intro⟩⟩⟩⟩⟩⟩⟩, ⟨fun z => z.elim, fun _ => ⟨fun z => z.elim, fun _ => ⟨fun z => z.elim, fun _ => ⟨fun z => z.elim, fun _ => ⟨hv, True.intro⟩⟩⟩⟩⟩, 0, _, _, 0, rfl, rfl, Or.inl rfl, rfl, fun _ => rfl⟩
    · simp only [e1, e2, h2, h3, h4, ne10, if_false, if_true]
      exact ⟨⟨fun z => z.elim, fun _ => ⟨fun z => z.elim, fun _ => ⟨fun z => z.elim, fun _ => ⟨fun _ => True.intro, fun z => absurd trivial z⟩⟩⟩⟩, ⟨fun z => z.elim, fun _ => ⟨fun _ => True.intro, fun z => absurd trivial z⟩⟩, 2, 0, 0, 1, rfl, rfl, Or.inr rfl, rfl, fun z => absurd z (by decide)⟩
  · simp only [e1, if_true]
    by_cases h2 : a0 < 0
    · simp only [h2, if_true]
      exact ⟨⟨fun _ => True.intro, fun z => absurd trivial z⟩, ⟨fun _ => True.intro, fun z => absurd trivial z⟩, 2, 0, 0, 1, rfl, rfl, Or.inr rfl, rfl, fun z => absurd z (by decide)⟩
    · have h3 : nI G ≤ a0 := h1.resolve_left h2
      simp only [h2, h3, if_true, if_false]
      exact ⟨⟨fun z => z.elim, fun _ => ⟨fun _ => True.intro, fun z => absurd trivial z⟩⟩, ⟨fun _ => True.intro, fun z => absurd trivial z⟩, 2, 0, 0, 1, rfl, rfl, Or.inr rfl, rfl, fun z => absurd z (by decide)⟩
theorem r_scaled (a0 a1 a2 Th : Int32) : S_X5_scaled a0 a1 a2 ∧ S_X6_scaled a0 a1 a2 Th ∧ ((f_X5_scaled a0 a1 a2).1 = 0 ∨ (f_X5_scaled a0 a1 a2).1 = 1) := by
  refine ⟨?_, ?_, ?_⟩
  · unfold S_X5_scaled
    refine ⟨fun _ => True.intro, fun _ => ⟨fun _ => True.intro, fun h2 => ⟨fun _ => True.intro, fun h3 => ⟨fun _ => True.intro, fun _ => ?_⟩⟩⟩⟩
    rcases win a2.toInt64 0 8 with ⟨e, b1, b2⟩ | ⟨e, b⟩
    · rw [i3264] at b1 b2
      obtain ⟨j, hj, rfl⟩ := nIr (a := a2) (n := 8) b1 b2 (by omega)
      have hj8 : j < 8 := by
        rcases Nat.lt_or_ge j 8 with z | z
        · exact z
        · exact absurd (show nI j = 8 by rw [show j = 8 by omega]; rfl) h3
      refine ⟨vin hj8 (by omega), vin hj8 (by omega), ⟨fun z => ?_, fun _ => True.intro⟩, fun _ => True.intro, fun _ => True.intro⟩
      have hz : ¬ gDENS (nI j) = 0 := fun y => by rw [y] at z; exact absurd z (by decide)
      exact ⟨hz, hz, hz, True.intro⟩
    · exact absurd e h2
  · unfold S_X6_scaled
    have hz : ¬ f_X6_lowOf a2 = 0 := by
      unfold f_X6_lowOf
      by_cases y0 : a2 = 0
      · rw [if_pos y0]; decide
      · rw [if_neg y0]
        by_cases y1 : a2 = 2
        · rw [if_pos y1]; decide
        · rw [if_neg y1]
          by_cases y2 : a2 = 1
          · rw [if_pos y2]; decide
          · rw [if_neg y2]
            by_cases y3 : a2 = 3
            · rw [if_pos y3]; decide
            · rw [if_neg y3]
              by_cases y4 : a2 = 4
              · rw [if_pos y4]; decide
              · rw [if_neg y4]
                by_cases y5 : a2 = 5
                · rw [if_pos y5]; decide
                · rw [if_neg y5]; decide
    exact ⟨fun _ => True.intro, fun _ => ⟨fun _ => True.intro, fun _ => ⟨fun _ => True.intro, fun _ => ⟨fun _ => ⟨fun _ => True.intro, fun _ => True.intro⟩, fun _ => ⟨hz, hz, hz, fun _ => True.intro, fun _ => True.intro⟩⟩⟩⟩⟩
  · unfold f_X5_scaled
    repeat' split
    all_goals first | exact Or.inl rfl | exact Or.inr rfl

end
section
/-! fraction -/
theorem L_fr (n : Nat) : ∀ (x : Int32) (a : Int64) (k m : Int32), L_X5_fraction_34 n x a k m = L_X6_fraction_91 n x a k m := by
  induction n with
  | zero => intro x a k m; rfl
  | succ n ih => intro x a k m; rw [L_X5_fraction_34, L_X6_fraction_91, ih]
theorem S_fr (n : Nat) : ∀ (x : Int32) (a : Int64) (k m : Int32), SL_X5_fraction_34 n x a k m ↔ SL_X6_fraction_91 n x a k m := by
  induction n with
  | zero => intro x a k m; exact Iff.rfl
  | succ n ih => intro x a k m; rw [SL_X5_fraction_34, SL_X6_fraction_91, ih]
theorem fr_left {m : Nat} (hm : m ≤ 9) : ∀ (n k x : Nat) (a : Int64), x < 2147483648 → k ≤ m → m - k < n → SL_X6_fraction_91 n (nI x) a (nI k) (nI m) ∧ (L_X6_fraction_91 n (nI x) a (nI k) (nI m)).1 = nI (x / 10 ^ (m - k)) := by
  intro n
  induction n with
  | zero => intro k x a _ _ h; exact absurd h (Nat.not_lt_zero _)
  | succ n ih =>
    intro k x a hx hk h
    have i1 : (nI m ≤ nI k) ↔ m ≤ k := nI_leI (by omega) (by omega)
    rw [SL_X6_fraction_91, L_X6_fraction_91]
    by_cases hc : m ≤ k
    · rw [if_pos (i1.mpr hc)]
      refine ⟨⟨fun _ => True.intro, fun z => absurd (i1.mpr hc) z⟩, ?_⟩
      rw [show m - k = 0 by omega, Nat.pow_zero, Nat.div_one]
    · have hn : ¬ nI m ≤ nI k := fun z => hc (i1.mp z)
      have d1 : nI x / (10 : Int32) = nI (x / 10) := pk_div (d := 10) (by omega) (by omega) (by omega)
      have c2 : nI k + 1 = nI (k + 1) := (nI_succ k).symm
      rw [if_neg hn]
      obtain ⟨s1, s2⟩ := ih (k + 1) (x / 10) ((a + ((131072 : Int64) * (nI x - nI x / (10 : Int32) * (10 : Int32)).toInt64)) / (10 : Int64)) (by omega) (by omega) (by omega)
      rw [← c2, ← d1] at s1 s2
      refine ⟨⟨fun z => absurd z hn, fun _ => s1⟩, ?_⟩
      rw [s2]
      congr 1
      rw [show m - k = (m - (k + 1)) + 1 by omega, Nat.pow_succ, Nat.mul_comm, Nat.div_div_eq_div_mul]
theorem fr_most {m : Nat} (hm : m ≤ 9) : ∀ (n k x : Nat), k ≤ m → m - k < n → SL_X6_fraction_28 n (lN x) (nI k) (nI m) 1 ∧ (L_X6_fraction_28 n (lN x) (nI k) (nI m) 1).1 = lN (x * 10 ^ (m - k)) := by
  intro n
  induction n with
  | zero => intro k x _ h; exact absurd h (Nat.not_lt_zero _)
  | succ n ih =>
    intro k x hk h
    have i1 : (nI m ≤ nI k) ↔ m ≤ k := nI_leI (by omega) (by omega)
    rw [SL_X6_fraction_28, L_X6_fraction_28]
    by_cases hc : m ≤ k
    · rw [if_pos (i1.mpr hc)]
      refine ⟨⟨fun _ => True.intro, fun z => absurd (i1.mpr hc) z⟩, ?_⟩
      rw [show m - k = 0 by omega, Nat.pow_zero, Nat.mul_one]
    · have hn : ¬ nI m ≤ nI k := fun z => hc (i1.mp z)
      have d1 : (10 : Int64) * lN x = lN (x * 10) := by rw [show (10 : Int64) = lN 10 from rfl, lN_mul, Nat.mul_comm]
      have c2 : nI k + 1 = nI (k + 1) := (nI_succ k).symm
      rw [if_neg hn, if_neg ne10, d1, c2]
      obtain ⟨s1, s2⟩ := ih (k + 1) (x * 10) (by omega) (by omega)
      refine ⟨⟨fun z => absurd z hn, fun _ => ⟨fun z => absurd z ne10, fun _ => s1⟩⟩, ?_⟩
      rw [s2]
      congr 1
      rw [show m - k = (m - (k + 1)) + 1 by omega, Nat.pow_succ, Nat.mul_assoc, Nat.mul_comm (10 ^ _) 10]
theorem p10 {m : Nat} (hm : m ≤ 9) : 10 ^ m ≤ 1000000000 := by
  rcases (show m = 0 ∨ m = 1 ∨ m = 2 ∨ m = 3 ∨ m = 4 ∨ m = 5 ∨ m = 6 ∨ m = 7 ∨ m = 8 ∨ m = 9 by omega) with rfl | rfl | rfl | rfl | rfl | rfl | rfl | rfl | rfl | rfl <;> decide
theorem fr_zero (a1 : Int32) : SL_X6_fraction_28 10 1 0 a1 0 := by
  rw [SL_X6_fraction_28]
  exact ⟨fun _ => True.intro, fun _ => ⟨fun _ => True.intro, fun z => absurd rfl z⟩⟩
theorem r_fraction (a0 a1 Th : Int32) : S_X5_fraction a0 a1 ∧ S_X6_fraction a0 a1 Th ∧ ∃ (o : Nat) (r r' th : Int32), f_X5_fraction a0 a1 = (o, r) ∧ f_X6_fraction a0 a1 Th = (r', th) ∧ (o = 0 ∨ o = 1) ∧ th = k_L_fraction o ∧ (o = 0 → r = r') := by
  unfold S_X5_fraction S_X6_fraction f_X5_fraction f_X6_fraction
  rw [in_eq]
  rcases win a1.toInt64 1 9 with ⟨e1, b1, b2⟩ | ⟨e1, b⟩
  · rw [i3264] at b1 b2
    have l1 : (1 : Int64).toInt = 1 := rfl
    have l9 : (9 : Int64).toInt = 9 := rfl
    obtain ⟨m, hm, rfl⟩ := nIr (a := a1) (n := 9) (by omega) (by omega) (by omega)
    rw [nI_toInt (by omega)] at b1 b2
    by_cases hn : a0 < 0
    · have hn' : ¬ 0 ≤ a0 := fun z => by rw [i32lt] at hn; rw [i32le] at z; omega
      simp only [e1, ne10, hn, hn', if_true, if_false]
      exact ⟨⟨fun z => z.elim, fun _ => ⟨fun z => z.elim, fun _ => True.intro⟩⟩, ⟨fun z => z.elim, fun _ => ⟨fun _ => ⟨fr_zero _, fun _ _ => True.intro⟩, fun z => absurd trivial z⟩⟩, 1, 0, 0, 1, rfl, rfl, Or.inr rfl, rfl, fun z => absurd z (by decide)⟩
    · have hn' : 0 ≤ a0 := by rw [i32lt] at hn; rw [i32le]; omega
      obtain ⟨x, hx, rfl⟩ := nI_of hn
      obtain ⟨s1, s2⟩ := fr_left hm 10 0 x 0 (by omega) (by omega) (by omega)
      obtain ⟨s3, s4⟩ := fr_most hm 10 0 1 (by omega) (by omega)
      have hp := p10 hm
      have s2 : (L_X6_fraction_91 10 (nI x) 0 0 (nI m)).1 = nI (x / 10 ^ m) := s2
      have s4 : (L_X6_fraction_28 10 1 0 (nI m) 1).1 = lN (10 ^ m) := by
        have s5 : (L_X6_fraction_28 10 1 0 (nI m) 1).1 = lN (1 * 10 ^ (m - 0)) := s4
        rw [s5, Nat.one_mul, Nat.sub_zero]
      have e5 : (nI x).toInt64 = lN x := nI_l (by omega)
      have i2 : (lN (10 ^ m) ≤ lN x) ↔ 10 ^ m ≤ x := lN_le (by omega) (by omega)
      have hxq : x / 10 ^ m < 2147483648 := Nat.lt_of_le_of_lt (Nat.div_le_self _ _) (by omega)
      have i3 : (nI (x / 10 ^ m) = 0) ↔ x / 10 ^ m = 0 := nI_eq (b := 0) (by omega) (by omega)
      have hpos : 0 < 10 ^ m := Nat.pos_of_ne_zero (by
        rcases (show m = 0 ∨ m = 1 ∨ m = 2 ∨ m = 3 ∨ m = 4 ∨ m = 5 ∨ m = 6 ∨ m = 7 ∨ m = 8 ∨ m = 9 by omega) with rfl | rfl | rfl | rfl | rfl | rfl | rfl | rfl | rfl | rfl <;> decide)
      have i4 : x / 10 ^ m = 0 ↔ x < 10 ^ m := by rw [Nat.div_eq_zero_iff]; omega
      simp only [e1, ne10, hn, hn', if_true, if_false, L_fr, S_fr, s2, s4, e5]
      have s1' : SL_X6_fraction_91 10 (nI x) 0 0 (nI m) := s1
      have s3' : SL_X6_fraction_28 10 1 0 (nI m) 1 := s3
      by_cases hc : 10 ^ m ≤ x
      · have y1 : lN (10 ^ m) ≤ lN x := i2.mpr hc
        have y2 : ¬ nI (x / 10 ^ m) = 0 := fun z => by have := i4.mp (i3.mp z); omega
        simp only [y1, y2, if_true, if_false]
        exact ⟨⟨fun z => z.elim, fun _ => ⟨fun _ => ⟨s1', fun _ _ => ⟨fun _ => True.intro, fun _ => True.intro⟩⟩, fun z => absurd trivial z⟩⟩, ⟨fun z => z.elim, fun _ => ⟨fun z => z.elim, fun _ => ⟨s3', fun u hu => ⟨fun _ => True.intro, fun z => ⟨s1', fun _ _ => True.intro⟩⟩⟩⟩⟩, 1, 0, 0, 1, rfl, rfl, Or.inr rfl, rfl, fun z => absurd z (by decide)⟩
      · have y1 : ¬ lN (10 ^ m) ≤ lN x := fun z => hc (i2.mp z)
        have y2 : nI (x / 10 ^ m) = 0 := i3.mpr (i4.mpr (by omega))
        simp only [y1, y2, if_true, if_false]
        exact ⟨⟨fun z => z.elim, fun _ => ⟨fun _ => ⟨s1', fun _ _ => ⟨fun _ => True.intro, fun _ => True.intro⟩⟩, fun z => absurd trivial z⟩⟩, ⟨fun z => z.elim, fun _ => ⟨fun z => z.elim, fun _ => ⟨s3', fun u hu => ⟨fun _ => True.intro, fun z => ⟨s1', fun _ _ => True.intro⟩⟩⟩⟩⟩, 0, _, _, 0, rfl, rfl, Or.inl rfl, rfl, fun _ => rfl⟩
  · simp only [e1, if_true]
    exact ⟨⟨fun _ => True.intro, fun z => absurd trivial z⟩, ⟨fun _ => ⟨fr_zero _, fun _ _ => True.intro⟩, fun z => absurd trivial z⟩, 1, 0, 0, 1, rfl, rfl, Or.inr rfl, rfl, fun z => absurd z (by decide)⟩

end
section
/-! rows of 21 numbers, written from a place on -/
def fl (f : Nat → Int64) (b : Nat) (s : Nat → Int64) (x : Nat) : Nat → Int64 := fun i => if b + x ≤ i ∧ i < b + 21 then s (i - b) else f i
theorem fl_in {f : Nat → Int64} {b : Nat} {s : Nat → Int64} {j : Nat} (hj : j < 21) : fl f b s 0 (b + j) = s j := by
  unfold fl
  rw [if_pos ⟨by omega, by omega⟩]
  congr 1; omega
theorem fl_out {f : Nat → Int64} {b : Nat} {s : Nat → Int64} {i : Nat} (h : i < b ∨ b + 21 ≤ i) : fl f b s 0 i = f i := by
  unfold fl
  rw [if_neg (fun z => by omega)]
theorem fl_end (f : Nat → Int64) (b : Nat) (s : Nat → Int64) {x : Nat} (hx : 21 ≤ x) : fl f b s x = f := by
  funext i
  unfold fl
  rw [if_neg (fun z => by omega)]
theorem fl_step (f : Nat → Int64) (b : Nat) (s : Nat → Int64) {x : Nat} (hx : x < 21) : fl (vp_updL f (b + x) (s x)) b s (x + 1) = fl f b s x := by
  funext i
  unfold fl
  rw [uL]
  by_cases h : i = b + x
  · rw [if_neg (fun z => by omega), if_pos h, if_pos ⟨by omega, by omega⟩, show i - b = x by omega]
  · rw [if_neg h]
    by_cases h2 : b + x ≤ i ∧ i < b + 21
    · rw [if_pos ⟨by omega, h2.2⟩, if_pos h2]
    · rw [if_neg (fun z => h2 ⟨by omega, z.2⟩), if_neg h2]
theorem n21 (x : Nat) (hx : x < 2147483648) : ((21 : Int32) ≤ nI x) ↔ 21 ≤ x := nI_leI (a := 21) (by omega) (by omega)
theorem m21 (a : Nat) : (21 : Int32) * nI a = nI (21 * a) := by rw [show (21 : Int32) = nI 21 from rfl, pk_mul]
theorem m32 (a b : Nat) : (32 : Int32) * nI a + nI b = nI (32 * a + b) := by rw [show (32 : Int32) = nI 32 from rfl, pk_mul, nI_add]
theorem L_put106 {p : Nat} (hp : p < 160) (Va : Nat → Int64) : ∀ (n x : Nat) (Ce : Nat → Int64), x ≤ 21 → 21 - x < n → SL_X6_put_106 n (nI x) Ce (nI p) Va ∧ (L_X6_put_106 n (nI x) Ce (nI p) Va).2 = fl Ce (21 * p) Va x := by
  intro n
  induction n with
  | zero => intro x Ce _ h; exact absurd h (Nat.not_lt_zero _)
  | succ n ih =>
    intro x Ce hx h
    rw [SL_X6_put_106, L_X6_put_106]
    by_cases hc : 21 ≤ x
    · have y : (21 : Int32) ≤ nI x := (n21 x (by omega)).mpr hc
      rw [if_pos y]
      exact ⟨⟨fun _ => True.intro, fun z => absurd y z⟩, (fl_end _ _ _ hc).symm⟩
    · have y : ¬ (21 : Int32) ≤ nI x := fun z => hc ((n21 x (by omega)).mp z)
      rw [if_neg y, m21, nI_add, clN (by omega), clN (n := x) (by omega), ← nI_succ]
      obtain ⟨s1, s2⟩ := ih (x + 1) (vp_updL Ce (21 * p + x) (Va x)) (by omega) (by omega)
      exact ⟨⟨fun z => absurd z y, fun _ => ⟨vin (by omega) (by omega), vin (by omega) (by omega), s1⟩⟩, by rw [s2, fl_step _ _ _ (by omega)]⟩
theorem L_put19 {p K : Nat} (hp : p < 160) (hK : K < 200) (Ce : Nat → Int64) : ∀ (n x : Nat) (Kc : Nat → Int64), x ≤ 21 → 21 - x < n → SL_X6_put_19 n (nI x) Kc (nI p) Ce (nI K) ∧ (L_X6_put_19 n (nI x) Kc (nI p) Ce (nI K)).2 = fl Kc (21 * K) (fun j => Ce (21 * p + j)) x := by
  intro n
  induction n with
  | zero => intro x Kc _ h; exact absurd h (Nat.not_lt_zero _)
  | succ n ih =>
    intro x Kc hx h
    rw [SL_X6_put_19, L_X6_put_19]
    by_cases hc : 21 ≤ x
    · have y : (21 : Int32) ≤ nI x := (n21 x (by omega)).mpr hc
      rw [if_pos y]
      exact ⟨⟨fun _ => True.intro, fun z => absurd y z⟩, (fl_end _ _ _ hc).symm⟩
    · have y : ¬ (21 : Int32) ≤ nI x := fun z => hc ((n21 x (by omega)).mp z)
      rw [if_neg y, m21, m21, nI_add, nI_add, clN (by omega), clN (n := 21 * p + x) (by omega), ← nI_succ]
      obtain ⟨s1, s2⟩ := ih (x + 1) (vp_updL Kc (21 * K + x) (Ce (21 * p + x))) (by omega) (by omega)
      refine ⟨⟨fun z => absurd z y, fun _ => ⟨vin (by omega) (by omega), vin (by omega) (by omega), s1⟩⟩, ?_⟩
      rw [s2]
      exact fl_step Kc (21 * K) (fun j => Ce (21 * p + j)) (by omega)
theorem L_fetch {k r : Nat} (hk : k < 5) (hr : r < 32) (Ce : Nat → Int64) : ∀ (n x : Nat) (Va : Nat → Int64), x ≤ 21 → 21 - x < n → SL_X6_fetch_2 n (nI x) Va (nI k) (nI r) Ce ∧ (L_X6_fetch_2 n (nI x) Va (nI k) (nI r) Ce).2 = fl Va 0 (fun j => Ce (21 * (32 * k + r) + j)) x := by
  intro n
  induction n with
  | zero => intro x Va _ h; exact absurd h (Nat.not_lt_zero _)
  | succ n ih =>
    intro x Va hx h
    rw [SL_X6_fetch_2, L_X6_fetch_2]
    by_cases hc : 21 ≤ x
    · have y : (21 : Int32) ≤ nI x := (n21 x (by omega)).mpr hc
      rw [if_pos y]
      exact ⟨⟨fun _ => True.intro, fun z => absurd y z⟩, (fl_end _ _ _ hc).symm⟩
    · have y : ¬ (21 : Int32) ≤ nI x := fun z => hc ((n21 x (by omega)).mp z)
      rw [if_neg y, m32, m21, nI_add, clN (n := x) (by omega), clN (by omega), ← nI_succ]
      obtain ⟨s1, s2⟩ := ih (x + 1) (vp_updL Va x (Ce (21 * (32 * k + r) + x))) (by omega) (by omega)
      refine ⟨⟨fun z => absurd z y, fun _ => ⟨vin (by omega) (by omega), vin (by omega) (by omega), s1⟩⟩, ?_⟩
      rw [s2]
      have e := fl_step Va 0 (fun j => Ce (21 * (32 * k + r) + j)) (x := x) (by omega)
      rw [Nat.zero_add] at e
      exact e
theorem fetch_at {k r : Nat} (hk : k < 5) (hr : r < 32) (Ce Va : Nat → Int64) : S_X6_fetch (nI k) (nI r) Ce Va ∧ ∀ j, j < 21 → f_X6_fetch (nI k) (nI r) Ce Va j = Ce (21 * (32 * k + r) + j) := by
  obtain ⟨s1, s2⟩ := L_fetch hk hr Ce 22 0 Va (by omega) (by omega)
  have s1 : SL_X6_fetch_2 22 0 Va (nI k) (nI r) Ce := s1
  have s2 : (L_X6_fetch_2 22 0 Va (nI k) (nI r) Ce).2 = fl Va 0 (fun j => Ce (21 * (32 * k + r) + j)) 0 := s2
  refine ⟨⟨s1, fun _ _ => True.intro⟩, fun j hj => ?_⟩
  show (L_X6_fetch_2 22 0 Va (nI k) (nI r) Ce).2 j = _
  rw [s2]
  have e := fl_in (f := Va) (b := 0) (s := fun j => Ce (21 * (32 * k + r) + j)) hj
  rw [Nat.zero_add] at e
  exact e
theorem v21 (n : Nat) (hn : n < 21) : vp_in (nI n) 21 := vin hn (by omega)
theorem S_mf (a : Int32) (Md : Nat → Int64) : S_X5_madeFits a Md := ⟨fun _ => ⟨v21 0 (by omega), True.intro⟩, fun _ => ⟨fun _ => ⟨v21 0 (by omega), True.intro⟩, fun _ => ⟨fun _ => ⟨v21 0 (by omega), fun _ => True.intro, fun _ => ⟨v21 1 (by omega), fun _ => True.intro, fun _ => ⟨v21 3 (by omega), fun _ => True.intro, fun _ => True.intro⟩⟩⟩, fun _ => True.intro⟩⟩⟩
theorem S_iw (a : Int32) (Va : Nat → Int64) : S_X6_isWithin a Va := S_mf a Va
theorem mf0 (Md : Nat → Int64) : f_X5_madeFits (nI 0) Md = f_X5_within (Md 0) (-2147483647) 2147483647 := by
  unfold f_X5_madeFits f_X5_isCount
  rw [cl0, if_pos (show nI 0 = 0 from rfl)]
theorem mf1 (Md : Nat → Int64) : f_X5_madeFits (nI 1) Md = f_X5_isLength (Md 0) := by
  unfold f_X5_madeFits
  rw [cl0, if_neg (show ¬ nI 1 = 0 from by decide), if_pos (show nI 1 = 1 from rfl)]
theorem mf2 (Md : Nat → Int64) : f_X5_madeFits (nI 2) Md = if f_X5_isLength (Md 0) = 0 then (0 : Int32) else if f_X5_isLength (Md 1) = 0 then 0 else if f_X5_isLength (Md 3) = 0 then 0 else 1 := by
  unfold f_X5_madeFits
  rw [cl0, cl1, cl3, if_neg (show ¬ nI 2 = 0 from by decide), if_neg (show ¬ nI 2 = 1 from by decide), if_pos (show nI 2 = 2 from rfl)]
theorem mf3 (Md : Nat → Int64) : f_X5_madeFits (nI 3) Md = 1 := by
  unfold f_X5_madeFits
  rw [if_neg (show ¬ nI 3 = 0 from by decide), if_neg (show ¬ nI 3 = 1 from by decide), if_neg (show ¬ nI 3 = 2 from by decide)]
theorem mf4 (Md : Nat → Int64) : f_X5_madeFits (nI 4) Md = 1 := by
  unfold f_X5_madeFits
  rw [if_neg (show ¬ nI 4 = 0 from by decide), if_neg (show ¬ nI 4 = 1 from by decide), if_neg (show ¬ nI 4 = 2 from by decide)]
theorem iw_eq : f_X6_isWithin = f_X5_madeFits := rfl
theorem fits_eq {k : Nat} (hk : k < 5) {Md Va : Nat → Int64} (h : ∀ j, j < wd k → Md j = Va j) : f_X5_madeFits (nI k) Md = f_X6_isWithin (nI k) Va := by
  rw [iw_eq]
  rcases (show k = 0 ∨ k = 1 ∨ k = 2 ∨ k = 3 ∨ k = 4 by omega) with rfl | rfl | rfl | rfl | rfl
  · rw [mf0, mf0, h 0 (by decide)]
  · rw [mf1, mf1, h 0 (by decide)]
  · rw [mf2, mf2, h 0 (by decide), h 1 (by decide), h 3 (by decide)]
  · rw [mf3, mf3]
  · rw [mf4, mf4]
theorem okV_fit {k : Nat} (hk : k < 5) {Va : Nat → Int64} (hf : ¬ f_X6_isWithin (nI k) Va = 0) (h2 : k = 2 → (0 ≤ (Va 2).toInt ∧ (Va 2).toInt ≤ 3) ∧ (0 ≤ (Va 4).toInt ∧ (Va 4).toInt ≤ 3)) (h3 : k = 3 → ∃ n, n ≤ 20 ∧ Va 0 = lN n) (h4 : k = 4 → -1 ≤ (Va 0).toInt ∧ (Va 0).toInt ≤ 999) : okV k Va := by
  rw [iw_eq] at hf
  refine ⟨fun z => ?_, fun z => ?_, fun z => ?_, h3, h4⟩ <;> subst z
  · rw [mf0] at hf
    rcases win (Va 0) (-2147483647) 2147483647 with ⟨e, b⟩ | ⟨e, b⟩
    · exact b
    · exact absurd e hf
  · rw [mf1] at hf
    rcases isLen (Va 0) with ⟨e, b⟩ | ⟨e, b⟩
    · exact b
    · exact absurd e hf
  · rw [mf2] at hf
    rcases isLen (Va 0) with ⟨e0, b0⟩ | ⟨e0, b0⟩
    · rcases isLen (Va 1) with ⟨e1, b1⟩ | ⟨e1, b1⟩
      · rcases isLen (Va 3) with ⟨e3, b3⟩ | ⟨e3, b3⟩
        · exact ⟨b0, b1, b3, (h2 rfl).1, (h2 rfl).2⟩
        · simp only [e0, e1, e3, ne10, if_false, if_true] at hf
          exact absurd trivial hf
      · simp only [e0, e1, ne10, if_false, if_true] at hf
        exact absurd trivial hf
    · simp only [e0, if_true] at hf
      exact absurd trivial hf
theorem cpy_in {α : Type} {f g : Nat → α} {sp dp n j : Nat} (hj : j < n) : va_cpy f g sp dp n (dp + j) = f (sp + j) := by
  rw [pk_cpy_in (by omega) (by omega)]
  congr 1; omega
theorem RV_put {Bc Ce Md Va : Nat → Int64} (h : RV Bc Ce) {k r : Nat} (hk : k < 5) (hr : r < 32) (hv : ∀ j, j < wd k → Md j = Va j) (ho : okV k Va) : RV (va_cpy Md Bc 0 (hm k + r * wd k) (wd k)) (fl Ce (21 * (32 * k + r)) Va 0) := by
  intro k' r' hk' hr'
  have hw := wd_le hk'
  have hw0 := wd_le hk
  by_cases hc : k' = k ∧ r' = r
  · obtain ⟨rfl, rfl⟩ := hc
    refine ⟨ho.cong hk' (fun j hj => fl_in (by omega)), fun j hj => ?_⟩
    rw [cpy_in hj, fl_in (by omega), Nat.zero_add]
    exact hv j hj
  · have e1 : ∀ j, j < 21 → fl Ce (21 * (32 * k + r)) Va 0 (21 * (32 * k' + r') + j) = Ce (21 * (32 * k' + r') + j) := fun j hj => fl_out (by
      have : 32 * k + r ≠ 32 * k' + r' := fun z => hc ⟨by omega, by omega⟩
      omega)
    refine ⟨(h k' r' hk' hr').1.cong hk' (fun j hj => e1 j (by omega)), fun j hj => ?_⟩
    rw [e1 j (by omega), pk_cpy_out ?_]
    · exact (h k' r' hk' hr').2 j hj
    · rcases Nat.lt_or_ge (hm k' + r' * wd k' + j) (hm k + r * wd k) with z | z
      · exact Or.inl z
      · rcases Nat.lt_or_ge (hm k' + r' * wd k' + j) (hm k + r * wd k + wd k) with z2 | z2
        · have z3 := cell_apart (j' := hm k' + r' * wd k' + j - (hm k + r * wd k)) hk' hr' hj hk hr (by omega) (by omega)
          exact absurd ⟨z3.1, z3.2.1⟩ hc
        · exact Or.inr z2
theorem RP_push {K : Nat} {Pk Pr Pl : Nat → Int32} {Pc : Nat → Int64} {Ko Kl : Nat → Int32} {Kc Bc Ce : Nat → Int64} (h : RP K Pk Pr Pl Pc Ko Kl Kc) (hV : RV Bc Ce) {k r : Nat} (hk : k < 5) (hr : r < 32) {lv lw : Int32} (hl : lv = lw) :
    RP (K + 1) (upd Pk K (nI k)) (upd Pr K (nI r)) (upd Pl K lv) (va_cpy Bc Pc (hm k + r * wd k) (K * 21) (wd k)) (upd Ko K (nI (32 * k + r))) (upd Kl K lw) (fl Kc (21 * K) (fun j => Ce (21 * (32 * k + r) + j)) 0) := by
  intro q hq
  have hw := wd_le hk
  by_cases z : q = K
  · subst z
    refine ⟨k, r, hk, hr, by rw [uI, if_pos rfl], by rw [uI, if_pos rfl], by rw [uI, if_pos rfl], by rw [uI, uI, if_pos rfl, if_pos rfl, hl], ?_, fun j hj => ?_⟩
    · exact (hV k r hk hr).1.cong hk (fun j hj => fl_in (by omega))
    · rw [fl_in (by omega), Nat.mul_comm 21 q, cpy_in hj]
      exact (hV k r hk hr).2 j hj
  · obtain ⟨k', r', h1, h2, h3, h4, h5, h6, h7, h8⟩ := h q (by omega)
    have hw' := wd_le h1
    have e1 : ∀ j, j < 21 → fl Kc (21 * K) (fun j => Ce (21 * (32 * k + r) + j)) 0 (21 * q + j) = Kc (21 * q + j) := fun j hj => fl_out (by omega)
    refine ⟨k', r', h1, h2, by rw [uI, if_neg z]; exact h3, by rw [uI, if_neg z]; exact h4, by rw [uI, if_neg z]; exact h5, by rw [uI, uI, if_neg z, if_neg z]; exact h6, h7.cong h1 (fun j hj => e1 j (by omega)), fun j hj => ?_⟩
    rw [e1 j (by omega), pk_cpy_out (by omega)]
    exact h8 j hj

end
section
/-! a value made is put, in both worlds -/
def RLv (Bl Le : Nat → Int32) : Prop := ∀ q, q < 160 → Bl q = Le q ∧ 0 ≤ (Le q).toInt
def RKv (K : Nat) (Kl : Nat → Int32) : Prop := ∀ q, q < K → 0 ≤ (Kl q).toInt
theorem RL_upd {Bl Le : Nat → Int32} (h : RLv Bl Le) (p : Nat) {v : Int32} (hv : 0 ≤ v.toInt) : RLv (upd Bl p v) (upd Le p v) := by
  intro q hq
  simp only [uI]
  by_cases z : q = p
  · rw [if_pos z, if_pos z]; exact ⟨rfl, hv⟩
  · rw [if_neg z, if_neg z]; exact h q hq
theorem RK_push {K : Nat} {Kl : Nat → Int32} (h : RKv K Kl) {v : Int32} (hv : 0 ≤ v.toInt) : RKv (K + 1) (upd Kl K v) := by
  intro q hq
  simp only [uI]
  by_cases z : q = K
  · rw [if_pos z]; exact hv
  · rw [if_neg z]; exact h q (by omega)
theorem cpyM {k r : Nat} (hk : k < 5) (hr : r < 32) (Bc Md : Nat → Int64) : S_X0_copyFromM (0 : Int32) (nI k) (nI r) Bc Md ∧ f_X0_copyFromM (0 : Int32) (nI k) (nI r) Bc Md = va_cpy Md Bc 0 (hm k + r * wd k) (wd k) := by
  have hw := wd_le hk
  have hl := hm_le hk hr
  have c1 : (nI (hm k + r * wd k)).toNatClampNeg = hm k + r * wd k := clN (by omega)
  have c2 : (nI (wd k)).toNatClampNeg = wd k := clN (by omega)
  unfold S_X0_copyFromM f_X0_copyFromM
  rw [homeN hk, gW hk, c1, c2, cl0]
  exact ⟨⟨S_homeN hk _, vin (by omega) (by omega), by decide, nI_pos (by omega), nI_pos (by omega), by omega, by omega, True.intro⟩, rfl⟩
theorem keepN {k r K : Nat} (hk : k < 5) (hr : r < 32) (hK : K < 200) (Bc : Nat → Int64) (Bl Pk Pr Pl : Nat → Int32) (Pc : Nat → Int64) :
    S_X3_keep (nI k) (nI r) Bc Bl Pk Pr Pl Pc (nI K) ∧ f_X3_keep (nI k) (nI r) Bc Bl Pk Pr Pl Pc (nI K) = (upd Pk K (nI k), upd Pr K (nI r), upd Pl K (Bl (32 * k + r)), va_cpy Bc Pc (hm k + r * wd k) (K * 21) (wd k), nI (K + 1)) := by
  have hw := wd_le hk
  have hl := hm_le hk hr
  have c1 : (nI (hm k + r * wd k)).toNatClampNeg = hm k + r * wd k := clN (by omega)
  have c2 : (nI (wd k)).toNatClampNeg = wd k := clN (by omega)
  have c3 : (nI K).toNatClampNeg = K := clN (by omega)
  have c4 : (nI (K * 21)).toNatClampNeg = K * 21 := clN (by omega)
  have c5 : (nI (32 * k + r)).toNatClampNeg = 32 * k + r := clN (by omega)
  have e1 : nI K * (21 : Int32) = nI (K * 21) := by rw [show (21 : Int32) = nI 21 from rfl, pk_mul]
  have e2 : nI K + (1 : Int32) = nI (K + 1) := (nI_succ K).symm
  have n1 : ¬ nI K < 0 := nI_pos (by omega)
  have n2 : nI K < (200 : Int32) := (nI_ltI (b := 200) (by omega) (by omega)).mpr hK
  unfold S_X3_keep f_X3_keep
  rw [homeN hk, gW hk, placeN, c1, c2, c3, c5, e1, c4, e2, if_neg n1, if_pos n2]
  exact ⟨⟨fun z => absurd z n1, fun _ => ⟨fun _ => ⟨vin (by omega) (by omega), vin (by omega) (by omega), vin (by omega) (by omega), vin (by omega) (by omega), S_homeN hk _, vin (by omega) (by omega), nI_pos (by omega), nI_pos (by omega), nI_pos (by omega), by omega, by omega, True.intro⟩, fun z => absurd n2 z⟩⟩, rfl⟩
theorem r_fin {d K : Nat} {Bc Ce : Nat → Int64} {Bl Le Pk Pr Pl Ko Kl Kd Gf : Nat → Int32} {Pc Kc : Nat → Int64} (hd : d ≤ 20) (hK : K ≤ 200)
    (hV : RV Bc Ce) (hL : RLv Bl Le) (hP : RP K Pk Pr Pl Pc Ko Kl Kc) (hQ : RKv K Kl) (hD : RD d K Gf Kd) {k r : Nat} (hk : k < 5) (hr : r < 32) (a2 full : Int32) (hf : ¬ full ≤ 0) {Md Va : Nat → Int64}
    (hv : ∀ j, j < wd k → Md j = Va j) (h2 : k = 2 → (0 ≤ (Va 2).toInt ∧ (Va 2).toInt ≤ 3) ∧ (0 ≤ (Va 4).toInt ∧ (Va 4).toInt ≤ 3)) (h3 : k = 3 → ∃ n, n ≤ 20 ∧ Va 0 = lN n) (h4 : k = 4 → -1 ≤ (Va 0).toInt ∧ (Va 0).toInt ≤ 999) :
    S_X5_putMade (nI k) (nI r) a2 Bc Bl Pk Pr Pl Pc (nI K) (nI d) Md ∧ S_X6_finish (nI k) (nI r) a2 full 0 Ce Le (nI d) (nI K) Kc Ko Kl Kd Va ∧
    ∃ (o : Nat) (y th : Int32) (Bc' : Nat → Int64) (Bl' Pk' Pr' Pl' : Nat → Int32) (Pc' : Nat → Int64) (K' : Nat) (Ce' : Nat → Int64) (Le' : Nat → Int32) (Kc' : Nat → Int64) (Ko' Kl' Kd' : Nat → Int32),
      f_X5_putMade (nI k) (nI r) a2 Bc Bl Pk Pr Pl Pc (nI K) (nI d) Md = (o, y, Bc', Bl', Pk', Pr', Pl', Pc', nI K') ∧
      f_X6_finish (nI k) (nI r) a2 full 0 Ce Le (nI d) (nI K) Kc Ko Kl Kd Va = (y, th, Ce', Le', nI K', Kc', Ko', Kl', Kd') ∧
      ((o = 0 ∧ th = 0 ∧ (y = 1 ∨ (y = 0 ∧ k ≠ 3))) ∨ (o = 3 ∧ th = full ∧ y = 0)) ∧ K' ≤ 200 ∧ RV Bc' Ce' ∧ RLv Bl' Le' ∧ RP K' Pk' Pr' Pl' Pc' Ko' Kl' Kc' ∧ RKv K' Kl' ∧ RD d K' Gf Kd' := by
  have hp : 32 * k + r < 160 := by omega
  have c5 : (nI (32 * k + r)).toNatClampNeg = 32 * k + r := clN (by omega)
  have hvp : vp_in (nI (32 * k + r)) 160 := vin hp (by omega)
  obtain ⟨sc, ec⟩ := cpyM hk hr Bc Md
  obtain ⟨sp, ep⟩ := L_put106 hp Va 22 0 Ce (by omega) (by omega)
  have sp : SL_X6_put_106 22 0 Ce (nI (32 * k + r)) Va := sp
  have ep : (L_X6_put_106 22 0 Ce (nI (32 * k + r)) Va).2 = fl Ce (21 * (32 * k + r)) Va 0 := ep
  have efit := fits_eq hk hv
  have hd0 : 0 ≤ (nI d).toInt := by rw [nI_toInt (by omega)]; omega
  unfold S_X5_putMade S_X6_finish f_X5_putMade f_X6_finish S_X6_isFull f_X6_isFull S_X6_put f_X6_put
  simp only [efit, placeN, m32, c5, (hL _ hp).1, ec]
  by_cases hw : f_X6_isWithin (nI k) Va = 0
  · simp only [hw, if_true]
    have k3 : k ≠ 3 := fun z => by subst z; rw [iw_eq, mf3] at hw; exact absurd hw (by decide)
    exact ⟨⟨S_mf _ _, fun u hu => ⟨fun _ => True.intro, fun z => absurd hu z⟩⟩, ⟨S_iw _ _, fun u hu => ⟨fun _ => True.intro, fun z => absurd hu z⟩⟩, 0, 0, 0, Bc, Bl, Pk, Pr, Pl, Pc, K, Ce, Le, Kc, Ko, Kl, Kd, rfl, rfl, Or.inl ⟨rfl, rfl, Or.inr ⟨rfl, k3⟩⟩, hK, hV, hL, hP, hQ, hD⟩
  · have ho := okV_fit hk hw h2 h3 h4
    have hV' := RV_put hV hk hr hv ho
    simp only [hw, if_false]
    by_cases ha : a2 = 0
    · simp only [ha, if_true]
      by_cases hle : nI d ≤ Le (32 * k + r)
      · simp only [hle, if_true, ep]
        exact ⟨⟨S_mf _ _, fun u hu => ⟨fun z => absurd (hu.symm.trans z) hw, fun _ => ⟨fun _ => ⟨hvp, fun _ => ⟨sc, fun _ _ => ⟨hvp, True.intro⟩⟩, fun z => absurd trivial z⟩, fun z => absurd trivial z⟩⟩⟩,
          ⟨S_iw _ _, fun u hu => ⟨fun z => absurd (hu.symm.trans z) hw, fun _ => ⟨⟨fun _ => ⟨hvp, fun _ => True.intro, fun z => absurd trivial z⟩, fun z => absurd trivial z⟩, fun u5 hu5 => ⟨fun _ => ⟨⟨fun _ => ⟨hvp, fun _ => ⟨sp, fun _ _ => ⟨hvp, True.intro⟩⟩, fun z => absurd trivial z⟩, fun z => absurd trivial z⟩, fun _ _ => True.intro⟩, fun z => absurd hu5 z⟩⟩⟩⟩,
          0, 1, 0, _, _, Pk, Pr, Pl, Pc, K, _, _, Kc, Ko, Kl, Kd, rfl, rfl, Or.inl ⟨rfl, rfl, Or.inl rfl⟩, hK, hV', RL_upd hL _ hd0, hP, hQ, hD⟩
      · have hd1 : 0 < d := by
          rcases Nat.eq_zero_or_pos d with z | z
          · exfalso
            apply hle
            rw [i32le, z]
            exact (hL _ hp).2
          · exact z
        have n1 : ¬ nI K < 0 := nI_pos (by omega)
        have i2 : (nI K < (200 : Int32)) ↔ K < 200 := nI_ltI (b := 200) (by omega) (by omega)
        have i3 : (nI K = (200 : Int32)) ↔ K = 200 := nI_eq (b := 200) (by omega) (by omega)
        by_cases hc : K = 200
        · have m1 : ¬ nI K < (200 : Int32) := fun z => by have := i2.mp z; omega
          have m2 : nI K = (200 : Int32) := i3.mpr hc
          simp only [hle, n1, m1, if_false, if_true]
          simp only [m2, if_true, ne10, hf, if_false]
          exact ⟨⟨S_mf _ _, fun u hu => ⟨fun z => absurd (hu.symm.trans z) hw, fun _ => ⟨fun _ => ⟨hvp, fun z => z.elim, fun _ => ⟨fun z => absurd z (by decide), fun _ => ⟨fun z => absurd z (by decide), fun _ => True.intro⟩⟩⟩, fun z => absurd trivial z⟩⟩⟩,
            ⟨S_iw _ _, fun u hu => ⟨fun z => absurd (hu.symm.trans z) hw, fun _ => ⟨⟨fun _ => ⟨hvp, fun z => z.elim, fun _ => ⟨fun _ => True.intro, fun z => absurd trivial z⟩⟩, fun z => absurd trivial z⟩, fun u5 hu5 => ⟨fun z => absurd (hu5.symm.trans z) (by decide), fun _ => ⟨fun z => z.elim, fun _ => True.intro⟩⟩⟩⟩⟩,
            3, 0, full, Bc, Bl, Pk, Pr, Pl, Pc, 200, Ce, Le, Kc, Ko, Kl, Kd, rfl, rfl, Or.inr ⟨rfl, rfl, rfl⟩, by omega, hV, hL, by rw [← hc]; exact hP, by rw [← hc]; exact hQ, by rw [← hc]; exact hD⟩
        · have hK2 : K < 200 := by omega
          have m1 : nI K < (200 : Int32) := i2.mpr hK2
          have m2 : ¬ nI K = (200 : Int32) := fun z => hc (i3.mp z)
          obtain ⟨sk, ek⟩ := keepN hk hr hK2 Bc Bl Pk Pr Pl Pc
          obtain ⟨sq, eq⟩ := L_put19 hp hK2 Ce 22 0 Kc (by omega) (by omega)
          have sq : SL_X6_put_19 22 0 Kc (nI (32 * k + r)) Ce (nI K) := sq
          have eq : (L_X6_put_19 22 0 Kc (nI (32 * k + r)) Ce (nI K)).2 = fl Kc (21 * K) (fun j => Ce (21 * (32 * k + r) + j)) 0 := eq
          have c3 : (nI K).toNatClampNeg = K := clN (by omega)
          have e2 : nI K + (1 : Int32) = nI (K + 1) := (nI_succ K).symm
          have hvK : vp_in (nI K) 200 := vin hK2 (by omega)
          simp only [hle, n1, m1, m2, if_false, if_true, ek, ep, eq, c3, e2]
          exact ⟨⟨S_mf _ _, fun u hu => ⟨fun z => absurd (hu.symm.trans z) hw, fun _ => ⟨fun _ => ⟨hvp, fun z => z.elim, fun _ => ⟨fun z => z.elim, fun _ => ⟨fun _ => ⟨sk, fun _ _ => ⟨sc, fun _ _ => ⟨hvp, True.intro⟩⟩⟩, fun z => absurd trivial z⟩⟩⟩, fun z => absurd trivial z⟩⟩⟩,
            ⟨S_iw _ _, fun u hu => ⟨fun z => absurd (hu.symm.trans z) hw, fun _ => ⟨⟨fun _ => ⟨hvp, fun z => z.elim, fun _ => ⟨fun z => z.elim, fun _ => True.intro⟩⟩, fun z => absurd trivial z⟩, fun u5 hu5 => ⟨fun _ => ⟨⟨fun _ => ⟨hvp, fun z => z.elim, fun _ => ⟨sq, fun _ _ => ⟨hvK, hvp, hvK, hvK, sp, fun _ _ => ⟨hvp, True.intro⟩⟩⟩⟩, fun z => absurd trivial z⟩, fun _ _ => True.intro⟩, fun z => absurd hu5 z⟩⟩⟩⟩,
            0, 1, 0, _, _, _, _, _, _, K + 1, _, _, _, _, _, _, rfl, rfl, Or.inl ⟨rfl, rfl, Or.inl rfl⟩, by omega, hV', RL_upd hL _ hd0, RP_push hP hV hk hr (hL _ hp).1, RK_push hQ (hL _ hp).2, RD_push hD hd1⟩
    · simp only [ha, if_false, ep, if_true]
      exact ⟨⟨S_mf _ _, fun u hu => ⟨fun z => absurd (hu.symm.trans z) hw, fun _ => ⟨fun z => z.elim, fun _ => ⟨sc, fun _ _ => ⟨hvp, True.intro⟩⟩⟩⟩⟩,
        ⟨S_iw _ _, fun u hu => ⟨fun z => absurd (hu.symm.trans z) hw, fun _ => ⟨⟨fun z => z.elim, fun _ => True.intro⟩, fun u5 hu5 => ⟨fun _ => ⟨⟨fun z => z.elim, fun _ => ⟨sp, fun _ _ => ⟨hvp, True.intro⟩⟩⟩, fun _ _ => True.intro⟩, fun z => absurd hu5 z⟩⟩⟩⟩,
        0, 1, 0, _, _, Pk, Pr, Pl, Pc, K, _, _, Kc, Ko, Kl, Kd, rfl, rfl, Or.inl ⟨rfl, rfl, Or.inl rfl⟩, hK, hV', RL_upd hL _ (by decide), hP, hQ, hD⟩

end
section
/-! set -/
def gS (k : Nat) (v : Int64) (Ug Ur : Nat → Int64) (j : Nat) : Int64 := if k = 3 then Ur j else if k = 2 then (if 5 ≤ j then 0 else Ug j) else if j = 0 then v else 0
theorem L_set57 {k : Nat} (hk : k < 5) (v : Int64) (Ug Ur : Nat → Int64) : ∀ (n x : Nat) (Va : Nat → Int64), x ≤ 21 → 21 - x < n → SL_X6_set_57 n (nI x) Va (nI k) v Ug Ur ∧ (L_X6_set_57 n (nI x) Va (nI k) v Ug Ur).2 = fl Va 0 (gS k v Ug Ur) x := by
  intro n
  induction n with
  | zero => intro x Va _ h; exact absurd h (Nat.not_lt_zero _)
  | succ n ih =>
    intro x Va hx h
    rw [SL_X6_set_57, L_X6_set_57]
    by_cases hc : 21 ≤ x
    · have y : (21 : Int32) ≤ nI x := (n21 x (by omega)).mpr hc
      rw [if_pos y]
      exact ⟨⟨fun _ => True.intro, fun z => absurd y z⟩, (fl_end _ _ _ hc).symm⟩
    · have y : ¬ (21 : Int32) ≤ nI x := fun z => hc ((n21 x (by omega)).mp z)
      have i3 : (nI k = (3 : Int32)) ↔ k = 3 := nI_eq (b := 3) (by omega) (by omega)
      have i2 : (nI k = (2 : Int32)) ↔ k = 2 := nI_eq (b := 2) (by omega) (by omega)
      have i0 : (nI x = 0) ↔ x = 0 := nI_eq (b := 0) (by omega) (by omega)
      have i5 : ((5 : Int32) ≤ nI x) ↔ 5 ≤ x := nI_leI (a := 5) (by omega) (by omega)
      have hx2 : vp_in (nI x) 21 := vin (by omega) (by omega)
      have st : ∀ w, w = gS k v Ug Ur x → SL_X6_set_57 n (nI (x + 1)) (vp_updL Va x w) (nI k) v Ug Ur ∧ (L_X6_set_57 n (nI (x + 1)) (vp_updL Va x w) (nI k) v Ug Ur).2 = fl Va 0 (gS k v Ug Ur) x := by
        intro w hw
        obtain ⟨s1, s2⟩ := ih (x + 1) (vp_updL Va x w) (by omega) (by omega)
        refine ⟨s1, ?_⟩
        rw [s2, hw]
        have e := fl_step Va 0 (gS k v Ug Ur) (x := x) (by omega)
        rw [Nat.zero_add] at e
        exact e
      rw [if_neg y, clN (n := x) (by omega), ← nI_succ]
      by_cases h3 : k = 3
      · obtain ⟨s1, s2⟩ := st (Ur x) (by unfold gS; rw [if_pos h3])
        rw [if_pos (i3.mpr h3)]
        exact ⟨⟨fun z => absurd z y, fun _ => ⟨fun _ => ⟨hx2, hx2, s1⟩, fun z => absurd (i3.mpr h3) z⟩⟩, s2⟩
      · rw [if_neg (fun z => h3 (i3.mp z))]
        by_cases h2 : k = 2
        · rw [if_pos (i2.mpr h2)]
          by_cases h5 : 5 ≤ x
          · obtain ⟨s1, s2⟩ := st 0 (by unfold gS; rw [if_neg h3, if_pos h2, if_pos h5])
            rw [if_pos (i5.mpr h5)]
            exact ⟨⟨fun z => absurd z y, fun _ => ⟨fun z => absurd (i3.mp z) h3, fun _ => ⟨fun _ => ⟨fun _ => ⟨hx2, s1⟩, fun z => absurd (i5.mpr h5) z⟩, fun z => absurd (i2.mpr h2) z⟩⟩⟩, s2⟩
          · obtain ⟨s1, s2⟩ := st (Ug x) (by unfold gS; rw [if_neg h3, if_pos h2, if_neg h5])
            rw [if_neg (fun z => h5 (i5.mp z))]
            exact ⟨⟨fun z => absurd z y, fun _ => ⟨fun z => absurd (i3.mp z) h3, fun _ => ⟨fun _ => ⟨fun z => absurd (i5.mp z) h5, fun _ => ⟨vin (by omega) (by omega), hx2, s1⟩⟩, fun z => absurd (i2.mpr h2) z⟩⟩⟩, s2⟩
        · rw [if_neg (fun z => h2 (i2.mp z))]
          by_cases h0 : x = 0
          · obtain ⟨s1, s2⟩ := st v (by unfold gS; rw [if_neg h3, if_neg h2, if_pos h0])
            rw [if_pos (i0.mpr h0)]
            exact ⟨⟨fun z => absurd z y, fun _ => ⟨fun z => absurd (i3.mp z) h3, fun _ => ⟨fun z => absurd (i2.mp z) h2, fun _ => ⟨fun _ => ⟨hx2, s1⟩, fun z => absurd (i0.mpr h0) z⟩⟩⟩⟩, s2⟩
          · obtain ⟨s1, s2⟩ := st 0 (by unfold gS; rw [if_neg h3, if_neg h2, if_neg h0])
            rw [if_neg (fun z => h0 (i0.mp z))]
            exact ⟨⟨fun z => absurd z y, fun _ => ⟨fun z => absurd (i3.mp z) h3, fun _ => ⟨fun z => absurd (i2.mp z) h2, fun _ => ⟨fun z => absurd (i0.mp z) h0, fun _ => ⟨hx2, s1⟩⟩⟩⟩⟩, s2⟩
theorem set57 {k : Nat} (hk : k < 5) (v : Int64) (Ug Ur Va : Nat → Int64) : SL_X6_set_57 22 (0 : Int32) Va (nI k) v Ug Ur ∧ ∀ j, j < 21 → (L_X6_set_57 22 (0 : Int32) Va (nI k) v Ug Ur).2 j = gS k v Ug Ur j := by
  obtain ⟨s1, s2⟩ := L_set57 hk v Ug Ur 22 0 Va (by omega) (by omega)
  refine ⟨s1, fun j hj => ?_⟩
  have s2 : (L_X6_set_57 22 (0 : Int32) Va (nI k) v Ug Ur).2 = fl Va 0 (gS k v Ug Ur) 0 := s2
  rw [s2]
  have e := fl_in (f := Va) (b := 0) (s := gS k v Ug Ur) hj
  rw [Nat.zero_add] at e
  exact e
theorem S_given (a : Int32) (v : Int64) (Wg Wr Md : Nat → Int64) : S_X5_makeGiven a v Wg Wr Md :=
  ⟨fun _ => ⟨by decide, by decide, by decide, by decide, by decide, True.intro⟩, fun _ => ⟨fun _ => ⟨by decide, by decide, by decide, by decide, by decide, True.intro⟩, fun _ => ⟨v21 0 (by omega), True.intro⟩⟩⟩
theorem given_at {k : Nat} (hk : k < 5) (v : Int64) {Wg Wr Ug Ur : Nat → Int64} (hG : ∀ j, j < 5 → Wg j = Ug j) (hR : ∀ j, j < 21 → Wr j = Ur j) (Md : Nat → Int64) : ∀ j, j < wd k → f_X5_makeGiven (nI k) v Wg Wr Md j = gS k v Ug Ur j := by
  intro j hj
  have i3 : (nI k = (3 : Int32)) ↔ k = 3 := nI_eq (b := 3) (by omega) (by omega)
  have i2 : (nI k = (2 : Int32)) ↔ k = 2 := nI_eq (b := 2) (by omega) (by omega)
  unfold f_X5_makeGiven gS
  by_cases h2 : k = 2
  · subst h2
    have hj : j < 5 := hj
    rw [if_pos (i2.mpr rfl), if_neg (by decide), if_pos rfl, if_neg (by omega), ← hG j hj]
    have e := cpy_in (f := Wg) (g := Md) (sp := 0) (dp := 0) (n := 5) hj
    rw [Nat.zero_add] at e
    exact e
  · rw [if_neg (fun z => h2 (i2.mp z))]
    by_cases h3 : k = 3
    · subst h3
      have hj : j < 21 := hj
      rw [if_pos (i3.mpr rfl), if_pos rfl, ← hR j hj]
      have e := cpy_in (f := Wr) (g := Md) (sp := 0) (dp := 0) (n := 21) hj
      rw [Nat.zero_add] at e
      exact e
    · have hj0 : j = 0 := by
        rcases (show k = 0 ∨ k = 1 ∨ k = 4 by omega) with rfl | rfl | rfl
        · have : wd 0 = 1 := rfl
          omega
        · have : wd 1 = 1 := rfl
          omega
        · have : wd 4 = 1 := rfl
          omega
      subst hj0
      rw [if_neg (fun z => h3 (i3.mp z)), if_neg h3, if_neg h2, if_pos rfl, uL, cl0, if_pos rfl]
theorem n01 : ¬ (0 : Int32) = 1 := by decide
theorem n30 : ¬ (3 : Nat) = 0 := by decide
theorem row0 {Wr Ur : Nat → Int64} (h : ∀ j, j < 21 → Wr j = Ur j) : okV 3 (vp_updL Ur (0 : Int32).toNatClampNeg (0 : Int64)) ∧ ∀ j, j < 21 → vp_updL Wr (0 : Int32).toNatClampNeg (0 : Int64) j = vp_updL Ur (0 : Int32).toNatClampNeg (0 : Int64) j := by
  refine ⟨⟨fun z => absurd z (by decide), fun z => absurd z (by decide), fun z => absurd z (by decide), fun _ => ⟨0, by omega, ?_⟩, fun z => absurd z (by decide)⟩, fun j hj => ?_⟩
  · rw [uL, cl0, if_pos rfl]; rfl
  · simp only [uL, cl0]
    by_cases z : j = 0
    · rw [if_pos z, if_pos z]
    · rw [if_neg z, if_neg z]; exact h j hj
theorem r_set {d K : Nat} {Bc Ce : Nat → Int64} {Bl Le Pk Pr Pl Ko Kl Kd Gf : Nat → Int32} {Pc Kc Wg Wr Ug Ur : Nat → Int64} (hd : d ≤ 20) (hK : K ≤ 200)
    (hV : RV Bc Ce) (hL : RLv Bl Le) (hP : RP K Pk Pr Pl Pc Ko Kl Kc) (hQ : RKv K Kl) (hD : RD d K Gf Kd) (hG : okV 2 Ug ∧ ∀ j, j < 5 → Wg j = Ug j) (hR : okV 3 Ur ∧ ∀ j, j < 21 → Wr j = Ur j) (a0 a1 : Int32) (a2 : Int64) (a3 Th : Int32) (Md Va : Nat → Int64) :
    S_X5_set a0 a1 a2 a3 Bc Bl Pk Pr Pl Pc (nI K) (nI d) Wg Wr Md ∧ S_X6_set a0 a1 a2 a3 Th Ce Le (nI d) (nI K) Kc Ko Kl Kd Ug Ur Va ∧
    ∃ (o : Nat) (y y' th : Int32) (Bc' : Nat → Int64) (Bl' Pk' Pr' Pl' : Nat → Int32) (Pc' : Nat → Int64) (K' : Nat) (Wr' Md' Ce' : Nat → Int64) (Le' : Nat → Int32) (Kc' : Nat → Int64) (Ko' Kl' Kd' : Nat → Int32) (Ur' Va' : Nat → Int64),
      f_X5_set a0 a1 a2 a3 Bc Bl Pk Pr Pl Pc (nI K) (nI d) Wg Wr Md = (o, y, Bc', Bl', Pk', Pr', Pl', Pc', nI K', Wr', Md') ∧
      f_X6_set a0 a1 a2 a3 Th Ce Le (nI d) (nI K) Kc Ko Kl Kd Ug Ur Va = (y', th, Ce', Le', nI K', Kc', Ko', Kl', Kd', Ur', Va') ∧
      (o = 0 ∨ o = 1 ∨ o = 2 ∨ o = 3) ∧ th = k_L_set o ∧ (o = 0 → y = y') ∧ K' ≤ 200 ∧ RV Bc' Ce' ∧ RLv Bl' Le' ∧ RP K' Pk' Pr' Pl' Pc' Ko' Kl' Kc' ∧ RKv K' Kl' ∧ RD d K' Gf Kd' ∧ (okV 3 Ur' ∧ ∀ j, j < 21 → Wr' j = Ur' j) := by
  unfold S_X5_set S_X6_set f_X5_set f_X6_set
  rw [in_eq]
  rcases kin4 a0 with ⟨k, hk, rfl, e1, e2⟩ | ⟨e1, e2⟩
  · have i4 : (nI k = (4 : Int32)) ↔ k = 4 := nI_eq (b := 4) (by omega) (by omega)
    rcases reg a1 with ⟨r, hr, rfl, e3, e4⟩ | ⟨e3, e4⟩
    · obtain ⟨sl, el⟩ := set57 hk a2 Ug Ur Va
      have hv : ∀ j, j < wd k → f_X5_makeGiven (nI k) a2 Wg Wr Md j = (L_X6_set_57 22 (0 : Int32) Va (nI k) a2 Ug Ur).2 j := by
        intro j hj
        have hw := wd_le hk
        rw [given_at hk a2 hG.2 hR.2 Md j hj, el j (by omega)]
      have h2 : k = 2 → (0 ≤ ((L_X6_set_57 22 (0 : Int32) Va (nI k) a2 Ug Ur).2 2).toInt ∧ ((L_X6_set_57 22 (0 : Int32) Va (nI k) a2 Ug Ur).2 2).toInt ≤ 3) ∧ (0 ≤ ((L_X6_set_57 22 (0 : Int32) Va (nI k) a2 Ug Ur).2 4).toInt ∧ ((L_X6_set_57 22 (0 : Int32) Va (nI k) a2 Ug Ur).2 4).toInt ≤ 3) := by
        intro z
        rw [el 2 (by omega), el 4 (by omega)]
        subst z
        exact (hG.1.2.2.1 rfl).2.2.2
      have h3 : k = 3 → ∃ n, n ≤ 20 ∧ (L_X6_set_57 22 (0 : Int32) Va (nI k) a2 Ug Ur).2 0 = lN n := by
        intro z
        rw [el 0 (by omega)]
        subst z
        exact hR.1.2.2.2.1 rfl
      have h4 : (k = 4 → -1 ≤ a2.toInt ∧ a2.toInt ≤ 999) → k = 4 → -1 ≤ ((L_X6_set_57 22 (0 : Int32) Va (nI k) a2 Ug Ur).2 0).toInt ∧ ((L_X6_set_57 22 (0 : Int32) Va (nI k) a2 Ug Ur).2 0).toInt ≤ 999 := by
        intro h z
        rw [el 0 (by omega)]
        have z1 := h z
        subst z
        exact z1
      by_cases k4 : nI k = (4 : Int32)
      · rcases win a2 (-1) 999 with ⟨e9, b1, b2⟩ | ⟨e9, b⟩
        · obtain ⟨s5, s6, o, y, th, Bc', Bl', Pk', Pr', Pl', Pc', K', Ce', Le', Kc', Ko', Kl', Kd', e5, e6, hc, hK', rest⟩ := r_fin hd hK hV hL hP hQ hD hk hr a3 3 (by decide) hv h2 h3 (h4 (fun _ => ⟨b1, b2⟩))
          refine ⟨fun u1 _ _ => ⟨fun _ => ⟨fun _ => True.intro, fun _ u14 _ _ => ⟨S_given _ _ _ _ _, fun u17 e17 => by rw [e17]; exact ⟨s5, fun _ _ _ => ⟨fun _ => ⟨v21 0 (by omega), True.intro⟩, fun _ => True.intro⟩⟩⟩⟩, fun _ u14 _ _ => ⟨S_given _ _ _ _ _, fun u17 e17 => by rw [e17]; exact ⟨s5, fun _ _ _ => ⟨fun _ => ⟨v21 0 (by omega), True.intro⟩, fun _ => True.intro⟩⟩⟩⟩,
            ⟨fun _ => True.intro, fun _ => ⟨fun _ => ⟨fun _ => True.intro, fun _ => ⟨fun _ => True.intro, fun _ => ⟨sl, fun u33 e33 => by rw [e33]; exact ⟨s6, fun _ _ => ⟨fun _ => ⟨fun _ => ⟨v21 0 (by omega), True.intro⟩, fun _ => True.intro⟩, fun _ => True.intro⟩⟩⟩⟩⟩, fun _ => ⟨fun _ => True.intro, fun _ => ⟨sl, fun u33 e33 => by rw [e33]; exact ⟨s6, fun _ _ => ⟨fun _ => ⟨fun _ => ⟨v21 0 (by omega), True.intro⟩, fun _ => True.intro⟩, fun _ => True.intro⟩⟩⟩⟩⟩⟩, ?_⟩
          simp only [e1, e2, e3, e4, e9, if_pos k4, ne10, if_true, if_false, e5, e6]
          rcases hc with ⟨rfl, rfl, hy⟩ | ⟨rfl, rfl, rfl⟩
          · rcases hy with rfl | ⟨rfl, hk3⟩
            · by_cases k3 : nI k = (3 : Int32)
              · simp only [k3, if_true]
                exact ⟨0, _, _, _, _, _, _, _, _, _, K', _, _, _, _, _, _, _, _, _, _, rfl, rfl, Or.inl rfl, rfl, fun _ => rfl, hK', rest.1, rest.2.1, rest.2.2.1, rest.2.2.2.1, rest.2.2.2.2, row0 hR.2⟩
              · simp only [k3, if_true, if_false]
                exact ⟨0, _, _, _, _, _, _, _, _, _, K', _, _, _, _, _, _, _, _, _, _, rfl, rfl, Or.inl rfl, rfl, fun _ => rfl, hK', rest.1, rest.2.1, rest.2.2.1, rest.2.2.2.1, rest.2.2.2.2, hR⟩
            · have k3 : ¬ nI k = (3 : Int32) := fun z => hk3 ((nI_eq (b := 3) (by omega) (by omega)).mp z)
              simp only [k3, n01, if_true, if_false]
              exact ⟨0, _, _, _, _, _, _, _, _, _, K', _, _, _, _, _, _, _, _, _, _, rfl, rfl, Or.inl rfl, rfl, fun _ => rfl, hK', rest.1, rest.2.1, rest.2.2.1, rest.2.2.2.1, rest.2.2.2.2, hR⟩
          · simp only [n01, n30, if_false]
            exact ⟨3, _, _, _, _, _, _, _, _, _, K', _, _, _, _, _, _, _, _, _, _, rfl, rfl, Or.inr (Or.inr (Or.inr rfl)), rfl, fun z => absurd z (by decide), hK', rest.1, rest.2.1, rest.2.2.1, rest.2.2.2.1, rest.2.2.2.2, hR⟩
        · simp only [e1, e2, e3, e4, e9, if_pos k4, ne10, if_true, if_false]
          exact ⟨fun u1 _ _ => ⟨fun _ => ⟨fun _ => True.intro, fun z => absurd trivial z⟩, fun z => absurd k4 z⟩, ⟨fun _ => True.intro, fun _ => ⟨fun _ => ⟨fun _ => True.intro, fun z => absurd trivial z⟩, fun z => absurd k4 z⟩⟩, 1, 0, 0, 1, Bc, Bl, Pk, Pr, Pl, Pc, K, Wr, Md, Ce, Le, Kc, Ko, Kl, Kd, Ur, Va, by first | rfl | (rw [if_neg (by decide)]), rfl, Or.inr (Or.inl rfl), rfl, fun z => absurd z (by decide), hK, hV, hL, hP, hQ, hD, hR⟩
      · obtain ⟨s5, s6, o, y, th, Bc', Bl', Pk', Pr', Pl', Pc', K', Ce', Le', Kc', Ko', Kl', Kd', e5, e6, hc, hK', rest⟩ := r_fin hd hK hV hL hP hQ hD hk hr a3 3 (by decide) hv h2 h3 (h4 (fun z => absurd (i4.mpr z) k4))
        refine ⟨fun u1 _ _ => ⟨fun _ => ⟨fun _ => True.intro, fun _ u14 _ _ => ⟨S_given _ _ _ _ _, fun u17 e17 => by rw [e17]; exact ⟨s5, fun _ _ _ => ⟨fun _ => ⟨v21 0 (by omega), True.intro⟩, fun _ => True.intro⟩⟩⟩⟩, fun _ u14 _ _ => ⟨S_given _ _ _ _ _, fun u17 e17 => by rw [e17]; exact ⟨s5, fun _ _ _ => ⟨fun _ => ⟨v21 0 (by omega), True.intro⟩, fun _ => True.intro⟩⟩⟩⟩,
          ⟨fun _ => True.intro, fun _ => ⟨fun _ => ⟨fun _ => True.intro, fun _ => ⟨fun _ => True.intro, fun _ => ⟨sl, fun u33 e33 => by rw [e33]; exact ⟨s6, fun _ _ => ⟨fun _ => ⟨fun _ => ⟨v21 0 (by omega), True.intro⟩, fun _ => True.intro⟩, fun _ => True.intro⟩⟩⟩⟩⟩, fun _ => ⟨fun _ => True.intro, fun _ => ⟨sl, fun u33 e33 => by rw [e33]; exact ⟨s6, fun _ _ => ⟨fun _ => ⟨fun _ => ⟨v21 0 (by omega), True.intro⟩, fun _ => True.intro⟩, fun _ => True.intro⟩⟩⟩⟩⟩⟩, ?_⟩
        simp only [e1, e2, e3, e4, k4, ne10, if_true, if_false, e5, e6]
        rcases hc with ⟨rfl, rfl, hy⟩ | ⟨rfl, rfl, rfl⟩
        · rcases hy with rfl | ⟨rfl, hk3⟩
          · by_cases k3 : nI k = (3 : Int32)
            · simp only [k3, if_true]
              exact ⟨0, _, _, _, _, _, _, _, _, _, K', _, _, _, _, _, _, _, _, _, _, rfl, rfl, Or.inl rfl, rfl, fun _ => rfl, hK', rest.1, rest.2.1, rest.2.2.1, rest.2.2.2.1, rest.2.2.2.2, row0 hR.2⟩
            · simp only [k3, if_true, if_false]
              exact ⟨0, _, _, _, _, _, _, _, _, _, K', _, _, _, _, _, _, _, _, _, _, rfl, rfl, Or.inl rfl, rfl, fun _ => rfl, hK', rest.1, rest.2.1, rest.2.2.1, rest.2.2.2.1, rest.2.2.2.2, hR⟩
          · have k3 : ¬ nI k = (3 : Int32) := fun z => hk3 ((nI_eq (b := 3) (by omega) (by omega)).mp z)
            simp only [k3, n01, if_true, if_false]
            exact ⟨0, _, _, _, _, _, _, _, _, _, K', _, _, _, _, _, _, _, _, _, _, rfl, rfl, Or.inl rfl, rfl, fun _ => rfl, hK', rest.1, rest.2.1, rest.2.2.1, rest.2.2.2.1, rest.2.2.2.2, hR⟩
        · simp only [n01, n30, if_false]
          exact ⟨3, _, _, _, _, _, _, _, _, _, K', _, _, _, _, _, _, _, _, _, _, rfl, rfl, Or.inr (Or.inr (Or.inr rfl)), rfl, fun z => absurd z (by decide), hK', rest.1, rest.2.1, rest.2.2.1, rest.2.2.2.1, rest.2.2.2.2, hR⟩
    · by_cases k4 : nI k = (4 : Int32)
      · rcases win a2 (-1) 999 with ⟨e9, b1, b2⟩ | ⟨e9, b⟩
        · simp only [e1, e2, e3, e4, e9, if_pos k4, ne10, if_true, if_false]
          exact ⟨fun u1 _ _ => ⟨fun _ => ⟨fun _ => True.intro, fun _ u14 hu h14 => absurd h14 (by rw [hu]; decide)⟩, fun z => absurd k4 z⟩, ⟨fun _ => True.intro, fun _ => ⟨fun _ => ⟨fun _ => True.intro, fun _ => ⟨fun _ => True.intro, fun z => absurd trivial z⟩⟩, fun z => absurd k4 z⟩⟩, 2, 0, 0, 2, Bc, Bl, Pk, Pr, Pl, Pc, K, Wr, Md, Ce, Le, Kc, Ko, Kl, Kd, Ur, Va, by first | rfl | (rw [if_neg (by decide)]), rfl, Or.inr (Or.inr (Or.inl rfl)), rfl, fun z => absurd z (by decide), hK, hV, hL, hP, hQ, hD, hR⟩
        · simp only [e1, e2, e3, e4, e9, if_pos k4, ne10, if_true, if_false]
          exact ⟨fun u1 _ _ => ⟨fun _ => ⟨fun _ => True.intro, fun z => absurd trivial z⟩, fun z => absurd k4 z⟩, ⟨fun _ => True.intro, fun _ => ⟨fun _ => ⟨fun _ => True.intro, fun z => absurd trivial z⟩, fun z => absurd k4 z⟩⟩, 1, 0, 0, 1, Bc, Bl, Pk, Pr, Pl, Pc, K, Wr, Md, Ce, Le, Kc, Ko, Kl, Kd, Ur, Va, by first | rfl | (rw [if_neg (by decide)]), rfl, Or.inr (Or.inl rfl), rfl, fun z => absurd z (by decide), hK, hV, hL, hP, hQ, hD, hR⟩
      · simp only [e1, e2, e3, e4, k4, ne10, if_true, if_false]
        exact ⟨fun u1 _ _ => ⟨fun z => z.elim, fun _ u14 hu h14 => absurd h14 (by rw [hu]; decide)⟩, ⟨fun z => z.elim, fun _ => ⟨fun z => z.elim, fun _ => ⟨fun _ => True.intro, fun z => absurd trivial z⟩⟩⟩, 2, 0, 0, 2, Bc, Bl, Pk, Pr, Pl, Pc, K, Wr, Md, Ce, Le, Kc, Ko, Kl, Kd, Ur, Va, by first | rfl | (rw [if_neg (by decide)]), rfl, Or.inr (Or.inr (Or.inl rfl)), rfl, fun z => absurd z (by decide), hK, hV, hL, hP, hQ, hD, hR⟩
  · simp only [e1, e2, if_true, if_false]
    exact ⟨fun u1 hu h1 => absurd h1 (by rw [hu]; decide), ⟨fun _ => True.intro, fun z => absurd trivial z⟩, 1, 0, 0, 1, Bc, Bl, Pk, Pr, Pl, Pc, K, Wr, Md, Ce, Le, Kc, Ko, Kl, Kd, Ur, Va, by first | rfl | (rw [if_neg (by decide)]), rfl, Or.inr (Or.inl rfl), rfl, fun z => absurd z (by decide), hK, hV, hL, hP, hQ, hD, hR⟩

end
section
/-! multiply, divide -/
theorem copyTo_at {k r : Nat} (hk : k < 5) (hr : r < 32) {Bc Ce : Nat → Int64} (h : RV Bc Ce) (Md : Nat → Int64) : S_X0_copyTo (nI k) (nI r) Bc Md ∧ ∀ j, j < wd k → f_X0_copyTo (nI k) (nI r) Bc Md j = Ce (21 * (32 * k + r) + j) := by
  have hw := wd_le hk
  have hl := hm_le hk hr
  have c1 : (nI (hm k + r * wd k)).toNatClampNeg = hm k + r * wd k := clN (by omega)
  have c2 : (nI (wd k)).toNatClampNeg = wd k := clN (by omega)
  unfold S_X0_copyTo f_X0_copyTo
  rw [homeN hk, gW hk, c1, c2]
  refine ⟨⟨S_homeN hk _, vin (by omega) (by omega), nI_pos (by omega), by decide, nI_pos (by omega), by omega, by rw [cl0]; omega, True.intro⟩, fun j hj => ?_⟩
  have e := cpy_in (f := Bc) (g := Md) (sp := hm k + r * wd k) (dp := 0) hj
  rw [Nat.zero_add] at e
  rw [cl0, e]
  exact (h k r hk hr).2 j hj
def opS (x4 : Int32) (v x : Int64) : Int64 := if x4 = 0 then x * v else x / v
theorem scale_at {k : Nat} (hk : k < 3) (v : Int64) (x4 : Int32) (hx : ¬ x4 = 0 → ¬ v = 0) (Va : Nat → Int64) : S_X6_scale (nI k) v x4 Va ∧ ∀ j, f_X6_scale (nI k) v x4 Va j = if j = 0 ∨ (k = 2 ∧ (j = 1 ∨ j = 3)) then opS x4 v (Va j) else Va j := by
  have a1 : (0 : Int32) + 1 = 1 := by decide
  have a2 : (1 : Int32) + 1 = 2 := by decide
  have a3 : (2 : Int32) + 1 = 3 := by decide
  have a4 : (3 : Int32) + 1 = 4 := by decide
  have b0 : ¬ (4 : Int32) ≤ 0 := by decide
  have b1 : ¬ (4 : Int32) ≤ 1 := by decide
  have b2 : ¬ (4 : Int32) ≤ 2 := by decide
  have b3 : ¬ (4 : Int32) ≤ 3 := by decide
  have b4 : (4 : Int32) ≤ 4 := by decide
  have c1 : ¬ (1 : Int32) = 0 := by decide
  have c2 : ¬ (2 : Int32) = 0 := by decide
  have c3 : ¬ (3 : Int32) = 0 := by decide
  have d1 : ¬ (1 : Int32) = 2 := by decide
  have d3 : ¬ (3 : Int32) = 2 := by decide
  have v0 : vp_in (0 : Int32) 21 := v21 0 (by omega)
  have v1 : vp_in (1 : Int32) 21 := v21 1 (by omega)
  have v3 : vp_in (3 : Int32) 21 := v21 3 (by omega)
  unfold S_X6_scale f_X6_scale
  by_cases hk2 : k = 2
  · subst hk2
    have e : nI 2 = (2 : Int32) := rfl
    rw [e]
    by_cases h4 : x4 = 0
    · simp only [L_X6_scale_3, SL_X6_scale_3, a1, a2, a3, a4, b0, b1, b2, b3, b4, c1, c2, c3, d1, d3, if_pos h4, if_true, if_false, cl0, cl1, cl3, opS]
      refine ⟨⟨by simp only [h4, v0, v1, v3, false_implies, true_implies, not_true, not_false_eq_true, and_true, and_self], fun _ _ => True.intro⟩, fun j => ?_⟩
      simp only [uL]
      repeat' split
      all_goals first | rfl | omega | (subst_vars; simp_all)
    · have hv := hx h4
      simp only [L_X6_scale_3, SL_X6_scale_3, a1, a2, a3, a4, b0, b1, b2, b3, b4, c1, c2, c3, d1, d3, if_neg h4, if_true, if_false, cl0, cl1, cl3, opS]
      refine ⟨⟨by simp only [h4, hv, v0, v1, v3, false_implies, true_implies, not_true, not_false_eq_true, and_true, and_self], fun _ _ => True.intro⟩, fun j => ?_⟩
      simp only [uL]
      repeat' split
      all_goals first | rfl | omega | (subst_vars; simp_all)
  · have e : ¬ nI k = (2 : Int32) := fun z => hk2 ((nI_eq (b := 2) (by omega) (by omega)).mp z)
    by_cases h4 : x4 = 0
    · simp only [L_X6_scale_3, SL_X6_scale_3, a1, a2, a3, a4, b0, b1, b2, b3, b4, c1, c2, c3, d1, d3, e, if_pos h4, if_true, if_false, cl0, cl1, cl3, opS]
      refine ⟨⟨by simp only [h4, v0, v1, v3, false_implies, true_implies, not_true, not_false_eq_true, and_true, and_self], fun _ _ => True.intro⟩, fun j => ?_⟩
      simp only [uL]
      repeat' split
      all_goals first | rfl | omega | (subst_vars; simp_all)
    · have hv := hx h4
      simp only [L_X6_scale_3, SL_X6_scale_3, a1, a2, a3, a4, b0, b1, b2, b3, b4, c1, c2, c3, d1, d3, e, if_neg h4, if_true, if_false, cl0, cl1, cl3, opS]
      refine ⟨⟨by simp only [h4, hv, v0, v1, v3, false_implies, true_implies, not_true, not_false_eq_true, and_true, and_self], fun _ _ => True.intro⟩, fun j => ?_⟩
      simp only [uL]
      repeat' split
      all_goals first | rfl | omega | (subst_vars; simp_all)

end
section
/-! multiply and divide, told of both -/
theorem up3 (op : Int64 → Int64) {u F : Nat → Int64} (h : ∀ j, j < 5 → u j = F j) : ∀ j, j < 5 → vp_updL (vp_updL (vp_updL u 0 (op (u 0))) 1 (op (vp_updL u 0 (op (u 0)) 1))) 3 (op (vp_updL (vp_updL u 0 (op (u 0))) 1 (op (vp_updL u 0 (op (u 0)) 1)) 3)) j = if j = 0 ∨ (2 = 2 ∧ (j = 1 ∨ j = 3)) then op (F j) else F j := by
  intro j hj
  have e := h j hj
  simp only [uL]
  rcases (show j = 0 ∨ j = 1 ∨ j = 2 ∨ j = 3 ∨ j = 4 by omega) with rfl | rfl | rfl | rfl | rfl <;> simp [e]
theorem up1 (op : Int64 → Int64) {u F : Nat → Int64} {k : Nat} (hk : ¬ k = 2) (h : ∀ j, j < 1 → u j = F j) : ∀ j, j < 1 → vp_updL u 0 (op (u 0)) j = if j = 0 ∨ (k = 2 ∧ (j = 1 ∨ j = 3)) then op (F j) else F j := by
  intro j hj
  have e : j = 0 := by omega
  subst e
  rw [uL, if_pos rfl, if_pos (Or.inl rfl), h 0 (by omega)]
theorem r_multiply {d K : Nat} {Bc Ce : Nat → Int64} {Bl Le Pk Pr Pl Ko Kl Kd Gf : Nat → Int32} {Pc Kc : Nat → Int64} (hd : d ≤ 20) (hK : K ≤ 200)
    (hV : RV Bc Ce) (hL : RLv Bl Le) (hP : RP K Pk Pr Pl Pc Ko Kl Kc) (hQ : RKv K Kl) (hD : RD d K Gf Kd) (a0 a1 : Int32) (a2 : Int64) (a3 Th : Int32) (Md Va : Nat → Int64) :
    S_X5_multiply a0 a1 a2 a3 Bc Bl Pk Pr Pl Pc (nI K) (nI d) Md ∧ S_X6_multiply a0 a1 a2 a3 Th Ce Le (nI d) (nI K) Kc Ko Kl Kd Va ∧
    ∃ (o : Nat) (y y' th : Int32) (Bc' : Nat → Int64) (Bl' Pk' Pr' Pl' : Nat → Int32) (Pc' : Nat → Int64) (K' : Nat) (Md' Ce' : Nat → Int64) (Le' : Nat → Int32) (Kc' : Nat → Int64) (Ko' Kl' Kd' : Nat → Int32) (Va' : Nat → Int64),
      f_X5_multiply a0 a1 a2 a3 Bc Bl Pk Pr Pl Pc (nI K) (nI d) Md = (o, y, Bc', Bl', Pk', Pr', Pl', Pc', nI K', Md') ∧
      f_X6_multiply a0 a1 a2 a3 Th Ce Le (nI d) (nI K) Kc Ko Kl Kd Va = (y', th, Ce', Le', nI K', Kc', Ko', Kl', Kd', Va') ∧
      (o = 0 ∨ o = 1 ∨ o = 2 ∨ o = 3) ∧ th = k_L_multiply o ∧ (o = 0 → y = y') ∧ K' ≤ 200 ∧ RV Bc' Ce' ∧ RLv Bl' Le' ∧ RP K' Pk' Pr' Pl' Pc' Ko' Kl' Kc' ∧ RKv K' Kl' ∧ RD d K' Gf Kd' := by
  unfold S_X5_multiply S_X6_multiply f_X5_multiply f_X6_multiply f_X5_isCount
  rw [in_eq]
  have hk2 := kin2 a0
  rw [in_eq] at hk2
  rcases hk2 with ⟨k, hk, rfl, e1, e2⟩ | ⟨e1, e2⟩
  · have i2 : (nI k = (2 : Int32)) ↔ k = 2 := nI_eq (b := 2) (by omega) (by omega)
    rcases reg a1 with ⟨r, hr, rfl, e3, e4⟩ | ⟨e3, e4⟩
    · rcases win a2 (-2147483647) 2147483647 with ⟨e9, b1, b2⟩ | ⟨e9, b⟩
      · have hw := wd_le (k := k) (by omega)
        obtain ⟨sc, ec⟩ := copyTo_at (k := k) (by omega) hr hV Md
        obtain ⟨sf, ef⟩ := fetch_at (k := k) (by omega) hr Ce Va
        obtain ⟨ss, es⟩ := scale_at hk a2 (0 : Int32) (fun z => absurd rfl z) (f_X6_fetch (nI k) (nI r) Ce Va)
        have hu : ∀ j, j < wd k → f_X0_copyTo (nI k) (nI r) Bc Md j = f_X6_fetch (nI k) (nI r) Ce Va j := fun j hj => (ec j hj).trans (ef j (by omega)).symm
        have h2 : k = 2 → (0 ≤ ((f_X6_scale (nI k) a2 (0 : Int32) (f_X6_fetch (nI k) (nI r) Ce Va)) 2).toInt ∧ ((f_X6_scale (nI k) a2 (0 : Int32) (f_X6_fetch (nI k) (nI r) Ce Va)) 2).toInt ≤ 3) ∧ (0 ≤ ((f_X6_scale (nI k) a2 (0 : Int32) (f_X6_fetch (nI k) (nI r) Ce Va)) 4).toInt ∧ ((f_X6_scale (nI k) a2 (0 : Int32) (f_X6_fetch (nI k) (nI r) Ce Va)) 4).toInt ≤ 3) := by
          intro z
          rw [es 2, es 4, if_neg (by omega), if_neg (by omega), ef 2 (by omega), ef 4 (by omega)]
          have hb := (hV k r (by omega) hr).1.2.2.1 z
          exact hb.2.2.2
        by_cases k2 : k = 2
        · have k2' : nI k = (2 : Int32) := i2.mpr k2
          have hwd : wd k = 5 := by rw [k2]; rfl
          have hv : ∀ j, j < wd k → vp_updL (vp_updL (vp_updL (f_X0_copyTo (nI k) (nI r) Bc Md) 0 (f_X0_copyTo (nI k) (nI r) Bc Md 0 * a2)) 1 (vp_updL (f_X0_copyTo (nI k) (nI r) Bc Md) 0 (f_X0_copyTo (nI k) (nI r) Bc Md 0 * a2) 1 * a2)) 3 (vp_updL (vp_updL (f_X0_copyTo (nI k) (nI r) Bc Md) 0 (f_X0_copyTo (nI k) (nI r) Bc Md 0 * a2)) 1 (vp_updL (f_X0_copyTo (nI k) (nI r) Bc Md) 0 (f_X0_copyTo (nI k) (nI r) Bc Md 0 * a2) 1 * a2) 3 * a2) j = f_X6_scale (nI k) a2 (0 : Int32) (f_X6_fetch (nI k) (nI r) Ce Va) j := by
            intro j hj
            rw [es j, k2]
            rw [k2] at hu
            exact up3 (fun x => x * a2) hu j (by rw [k2] at hj; exact hj)
          obtain ⟨s5, s6, o, y, th, Bc', Bl', Pk', Pr', Pl', Pc', K', Ce', Le', Kc', Ko', Kl', Kd', e5, e6, hc, hK', rest⟩ := r_fin hd hK hV hL hP hQ hD (k := k) (by omega) hr a3 3 (by decide) hv h2 (fun z => absurd z (by omega)) (fun z => absurd z (by omega))
          refine ⟨fun u1 _ _ u3 _ _ => ⟨fun _ => True.intro, fun _ => ⟨sc, fun u7 e7 => by rw [e7]; exact ⟨v21 0 (by omega), v21 0 (by omega), ⟨fun z => ⟨v21 1 (by omega), v21 1 (by omega), v21 3 (by omega), v21 3 (by omega), s5, fun _ _ _ => True.intro⟩, fun z => absurd k2' z⟩⟩⟩⟩,
            ⟨fun _ => True.intro, fun _ => ⟨fun _ => True.intro, fun _ => ⟨fun _ => True.intro, fun _ => ⟨sf, fun u6 e6' => by rw [e6']; exact ⟨ss, fun u8 e8 => by rw [e8]; exact ⟨s6, fun _ _ => True.intro⟩⟩⟩⟩⟩⟩, ?_⟩
          simp only [e1, e2, e3, e4, e9, ne10, if_true, if_false, if_pos k2', cl0, cl1, cl3, e5, e6]
          rcases hc with ⟨rfl, rfl, hy⟩ | ⟨rfl, rfl, rfl⟩
          · simp only [if_true]
            exact ⟨0, _, _, _, _, _, _, _, _, _, K', _, _, _, _, _, _, _, _, rfl, rfl, Or.inl rfl, rfl, fun _ => rfl, hK', rest.1, rest.2.1, rest.2.2.1, rest.2.2.2.1, rest.2.2.2.2⟩
          · simp only [n30, if_false]
            exact ⟨3, _, _, _, _, _, _, _, _, _, K', _, _, _, _, _, _, _, _, rfl, rfl, Or.inr (Or.inr (Or.inr rfl)), rfl, fun z => absurd z (by decide), hK', rest.1, rest.2.1, rest.2.2.1, rest.2.2.2.1, rest.2.2.2.2⟩
        · have k2' : ¬ nI k = (2 : Int32) := fun z => k2 (i2.mp z)
          have hwd : wd k = 1 := by
            rcases (show k = 0 ∨ k = 1 by omega) with rfl | rfl <;> rfl
          have hv : ∀ j, j < wd k → vp_updL (f_X0_copyTo (nI k) (nI r) Bc Md) 0 (f_X0_copyTo (nI k) (nI r) Bc Md 0 * a2) j = f_X6_scale (nI k) a2 (0 : Int32) (f_X6_fetch (nI k) (nI r) Ce Va) j := by
            intro j hj
            rw [es j]
            rw [hwd] at hu hj
            exact up1 (fun x => x * a2) k2 hu j hj
          obtain ⟨s5, s6, o, y, th, Bc', Bl', Pk', Pr', Pl', Pc', K', Ce', Le', Kc', Ko', Kl', Kd', e5, e6, hc, hK', rest⟩ := r_fin hd hK hV hL hP hQ hD (k := k) (by omega) hr a3 3 (by decide) hv h2 (fun z => absurd z (by omega)) (fun z => absurd z (by omega))
          refine ⟨fun u1 _ _ u3 _ _ => ⟨fun _ => True.intro, fun _ => ⟨sc, fun u7 e7 => by rw [e7]; exact ⟨v21 0 (by omega), v21 0 (by omega), ⟨fun z => absurd z k2', fun _ => ⟨s5, fun _ _ _ => True.intro⟩⟩⟩⟩⟩,
            ⟨fun _ => True.intro, fun _ => ⟨fun _ => True.intro, fun _ => ⟨fun _ => True.intro, fun _ => ⟨sf, fun u6 e6' => by rw [e6']; exact ⟨ss, fun u8 e8 => by rw [e8]; exact ⟨s6, fun _ _ => True.intro⟩⟩⟩⟩⟩⟩, ?_⟩
          simp only [e1, e2, e3, e4, e9, ne10, if_true, if_false, if_neg k2', cl0, cl1, cl3, e5, e6]
          rcases hc with ⟨rfl, rfl, hy⟩ | ⟨rfl, rfl, rfl⟩
          · simp only [if_true]
            exact ⟨0, _, _, _, _, _, _, _, _, _, K', _, _, _, _, _, _, _, _, rfl, rfl, Or.inl rfl, rfl, fun _ => rfl, hK', rest.1, rest.2.1, rest.2.2.1, rest.2.2.2.1, rest.2.2.2.2⟩
          · simp only [n30, if_false]
            exact ⟨3, _, _, _, _, _, _, _, _, _, K', _, _, _, _, _, _, _, _, rfl, rfl, Or.inr (Or.inr (Or.inr rfl)), rfl, fun z => absurd z (by decide), hK', rest.1, rest.2.1, rest.2.2.1, rest.2.2.2.1, rest.2.2.2.2⟩
      · simp only [e1, e2, e3, e4, e9, ne10, if_true, if_false]
        exact ⟨fun u1 _ _ u3 _ _ => ⟨fun _ => True.intro, fun z => absurd trivial z⟩, ⟨fun z => z.elim, fun _ => ⟨fun z => z.elim, fun _ => ⟨fun _ => True.intro, fun z => absurd trivial z⟩⟩⟩, 0, 0, 0, 0, Bc, Bl, Pk, Pr, Pl, Pc, K, Md, Ce, Le, Kc, Ko, Kl, Kd, Va, by first | rfl | (rw [if_neg (by decide)]), rfl, Or.inl rfl, rfl, fun _ => rfl, hK, hV, hL, hP, hQ, hD⟩
    · simp only [e1, e2, e3, e4, ne10, if_true, if_false]
      exact ⟨fun u1 _ _ u3 hu h3 => absurd h3 (by rw [hu]; decide), ⟨fun z => z.elim, fun _ => ⟨fun _ => True.intro, fun z => absurd trivial z⟩⟩, 2, 0, 0, 2, Bc, Bl, Pk, Pr, Pl, Pc, K, Md, Ce, Le, Kc, Ko, Kl, Kd, Va, by first | rfl | (rw [if_neg (by decide)]), rfl, Or.inr (Or.inr (Or.inl rfl)), rfl, fun z => absurd z (by decide), hK, hV, hL, hP, hQ, hD⟩
  · simp only [e1, e2, if_true, if_false]
    exact ⟨fun u1 hu h1 => absurd h1 (by rw [hu]; decide), ⟨fun _ => True.intro, fun z => absurd trivial z⟩, 1, 0, 0, 1, Bc, Bl, Pk, Pr, Pl, Pc, K, Md, Ce, Le, Kc, Ko, Kl, Kd, Va, by first | rfl | (rw [if_neg (by decide)]), rfl, Or.inr (Or.inl rfl), rfl, fun z => absurd z (by decide), hK, hV, hL, hP, hQ, hD⟩
theorem r_divide {d K : Nat} {Bc Ce : Nat → Int64} {Bl Le Pk Pr Pl Ko Kl Kd Gf : Nat → Int32} {Pc Kc : Nat → Int64} (hd : d ≤ 20) (hK : K ≤ 200)
    (hV : RV Bc Ce) (hL : RLv Bl Le) (hP : RP K Pk Pr Pl Pc Ko Kl Kc) (hQ : RKv K Kl) (hD : RD d K Gf Kd) (a0 a1 : Int32) (a2 : Int64) (a3 Th : Int32) (Md Va : Nat → Int64) :
    S_X5_divide a0 a1 a2 a3 Bc Bl Pk Pr Pl Pc (nI K) (nI d) Md ∧ S_X6_divide a0 a1 a2 a3 Th Ce Le (nI d) (nI K) Kc Ko Kl Kd Va ∧
    ∃ (o : Nat) (y y' th : Int32) (Bc' : Nat → Int64) (Bl' Pk' Pr' Pl' : Nat → Int32) (Pc' : Nat → Int64) (K' : Nat) (Md' Ce' : Nat → Int64) (Le' : Nat → Int32) (Kc' : Nat → Int64) (Ko' Kl' Kd' : Nat → Int32) (Va' : Nat → Int64),
      f_X5_divide a0 a1 a2 a3 Bc Bl Pk Pr Pl Pc (nI K) (nI d) Md = (o, y, Bc', Bl', Pk', Pr', Pl', Pc', nI K', Md') ∧
      f_X6_divide a0 a1 a2 a3 Th Ce Le (nI d) (nI K) Kc Ko Kl Kd Va = (y', th, Ce', Le', nI K', Kc', Ko', Kl', Kd', Va') ∧
      (o = 0 ∨ o = 1 ∨ o = 2 ∨ o = 5 ∨ o = 3) ∧ th = k_L_divide o ∧ (o = 0 → y = y') ∧ K' ≤ 200 ∧ RV Bc' Ce' ∧ RLv Bl' Le' ∧ RP K' Pk' Pr' Pl' Pc' Ko' Kl' Kc' ∧ RKv K' Kl' ∧ RD d K' Gf Kd' := by
  unfold S_X5_divide S_X6_divide f_X5_divide f_X6_divide
  rw [in_eq]
  have hk2 := kin2 a0
  rw [in_eq] at hk2
  rcases hk2 with ⟨k, hk, rfl, e1, e2⟩ | ⟨e1, e2⟩
  · have i2 : (nI k = (2 : Int32)) ↔ k = 2 := nI_eq (b := 2) (by omega) (by omega)
    rcases reg a1 with ⟨r, hr, rfl, e3, e4⟩ | ⟨e3, e4⟩
    · by_cases hne : ¬ a2 = 0
      · have hw := wd_le (k := k) (by omega)
        obtain ⟨sc, ec⟩ := copyTo_at (k := k) (by omega) hr hV Md
        obtain ⟨sf, ef⟩ := fetch_at (k := k) (by omega) hr Ce Va
        obtain ⟨ss, es⟩ := scale_at hk a2 (1 : Int32) (fun _ => hne) (f_X6_fetch (nI k) (nI r) Ce Va)
        have hu : ∀ j, j < wd k → f_X0_copyTo (nI k) (nI r) Bc Md j = f_X6_fetch (nI k) (nI r) Ce Va j := fun j hj => (ec j hj).trans (ef j (by omega)).symm
        have h2 : k = 2 → (0 ≤ ((f_X6_scale (nI k) a2 (1 : Int32) (f_X6_fetch (nI k) (nI r) Ce Va)) 2).toInt ∧ ((f_X6_scale (nI k) a2 (1 : Int32) (f_X6_fetch (nI k) (nI r) Ce Va)) 2).toInt ≤ 3) ∧ (0 ≤ ((f_X6_scale (nI k) a2 (1 : Int32) (f_X6_fetch (nI k) (nI r) Ce Va)) 4).toInt ∧ ((f_X6_scale (nI k) a2 (1 : Int32) (f_X6_fetch (nI k) (nI r) Ce Va)) 4).toInt ≤ 3) := by
          intro z
          rw [es 2, es 4, if_neg (by omega), if_neg (by omega), ef 2 (by omega), ef 4 (by omega)]
          have hb := (hV k r (by omega) hr).1.2.2.1 z
          exact hb.2.2.2
        by_cases k2 : k = 2
        · have k2' : nI k = (2 : Int32) := i2.mpr k2
          have hwd : wd k = 5 := by rw [k2]; rfl
          have hv : ∀ j, j < wd k → vp_updL (vp_updL (vp_updL (f_X0_copyTo (nI k) (nI r) Bc Md) 0 (f_X0_copyTo (nI k) (nI r) Bc Md 0 / a2)) 1 (vp_updL (f_X0_copyTo (nI k) (nI r) Bc Md) 0 (f_X0_copyTo (nI k) (nI r) Bc Md 0 / a2) 1 / a2)) 3 (vp_updL (vp_updL (f_X0_copyTo (nI k) (nI r) Bc Md) 0 (f_X0_copyTo (nI k) (nI r) Bc Md 0 / a2)) 1 (vp_updL (f_X0_copyTo (nI k) (nI r) Bc Md) 0 (f_X0_copyTo (nI k) (nI r) Bc Md 0 / a2) 1 / a2) 3 / a2) j = f_X6_scale (nI k) a2 (1 : Int32) (f_X6_fetch (nI k) (nI r) Ce Va) j := by
            intro j hj
            rw [es j, k2]
            rw [k2] at hu
            exact up3 (fun x => x / a2) hu j (by rw [k2] at hj; exact hj)
          obtain ⟨s5, s6, o, y, th, Bc', Bl', Pk', Pr', Pl', Pc', K', Ce', Le', Kc', Ko', Kl', Kd', e5, e6, hc, hK', rest⟩ := r_fin hd hK hV hL hP hQ hD (k := k) (by omega) hr a3 4 (by decide) hv h2 (fun z => absurd z (by omega)) (fun z => absurd z (by omega))
          refine ⟨fun u1 _ _ u3 _ _ => ⟨fun _ => True.intro, fun _ => ⟨sc, fun u7 e7 => by rw [e7]; exact ⟨v21 0 (by omega), hne, v21 0 (by omega), ⟨fun z => ⟨v21 1 (by omega), hne, v21 1 (by omega), v21 3 (by omega), hne, v21 3 (by omega), s5, fun _ _ _ => True.intro⟩, fun z => absurd k2' z⟩⟩⟩⟩,
            ⟨fun _ => True.intro, fun _ => ⟨fun _ => True.intro, fun _ => ⟨fun _ => True.intro, fun _ => ⟨sf, fun u6 e6' => by rw [e6']; exact ⟨ss, fun u8 e8 => by rw [e8]; exact ⟨s6, fun _ _ => True.intro⟩⟩⟩⟩⟩⟩, ?_⟩
          simp only [e1, e2, e3, e4, if_neg hne, ne10, if_true, if_false, if_pos k2', cl0, cl1, cl3, e5, e6]
          rcases hc with ⟨rfl, rfl, hy⟩ | ⟨rfl, rfl, rfl⟩
          · simp only [if_true]
            exact ⟨0, _, _, _, _, _, _, _, _, _, K', _, _, _, _, _, _, _, _, rfl, rfl, Or.inl rfl, rfl, fun _ => rfl, hK', rest.1, rest.2.1, rest.2.2.1, rest.2.2.2.1, rest.2.2.2.2⟩
          · simp only [n30, if_false]
            exact ⟨3, _, _, _, _, _, _, _, _, _, K', _, _, _, _, _, _, _, _, rfl, rfl, Or.inr (Or.inr (Or.inr (Or.inr rfl))), rfl, fun z => absurd z (by decide), hK', rest.1, rest.2.1, rest.2.2.1, rest.2.2.2.1, rest.2.2.2.2⟩
        · have k2' : ¬ nI k = (2 : Int32) := fun z => k2 (i2.mp z)
          have hwd : wd k = 1 := by
            rcases (show k = 0 ∨ k = 1 by omega) with rfl | rfl <;> rfl
          have hv : ∀ j, j < wd k → vp_updL (f_X0_copyTo (nI k) (nI r) Bc Md) 0 (f_X0_copyTo (nI k) (nI r) Bc Md 0 / a2) j = f_X6_scale (nI k) a2 (1 : Int32) (f_X6_fetch (nI k) (nI r) Ce Va) j := by
            intro j hj
            rw [es j]
            rw [hwd] at hu hj
            exact up1 (fun x => x / a2) k2 hu j hj
          obtain ⟨s5, s6, o, y, th, Bc', Bl', Pk', Pr', Pl', Pc', K', Ce', Le', Kc', Ko', Kl', Kd', e5, e6, hc, hK', rest⟩ := r_fin hd hK hV hL hP hQ hD (k := k) (by omega) hr a3 4 (by decide) hv h2 (fun z => absurd z (by omega)) (fun z => absurd z (by omega))
          refine ⟨fun u1 _ _ u3 _ _ => ⟨fun _ => True.intro, fun _ => ⟨sc, fun u7 e7 => by rw [e7]; exact ⟨v21 0 (by omega), hne, v21 0 (by omega), ⟨fun z => absurd z k2', fun _ => ⟨s5, fun _ _ _ => True.intro⟩⟩⟩⟩⟩,
            ⟨fun _ => True.intro, fun _ => ⟨fun _ => True.intro, fun _ => ⟨fun _ => True.intro, fun _ => ⟨sf, fun u6 e6' => by rw [e6']; exact ⟨ss, fun u8 e8 => by rw [e8]; exact ⟨s6, fun _ _ => True.intro⟩⟩⟩⟩⟩⟩, ?_⟩
          simp only [e1, e2, e3, e4, if_neg hne, ne10, if_true, if_false, if_neg k2', cl0, cl1, cl3, e5, e6]
          rcases hc with ⟨rfl, rfl, hy⟩ | ⟨rfl, rfl, rfl⟩
          · simp only [if_true]
            exact ⟨0, _, _, _, _, _, _, _, _, _, K', _, _, _, _, _, _, _, _, rfl, rfl, Or.inl rfl, rfl, fun _ => rfl, hK', rest.1, rest.2.1, rest.2.2.1, rest.2.2.2.1, rest.2.2.2.2⟩
          · simp only [n30, if_false]
            exact ⟨3, _, _, _, _, _, _, _, _, _, K', _, _, _, _, _, _, _, _, rfl, rfl, Or.inr (Or.inr (Or.inr (Or.inr rfl))), rfl, fun z => absurd z (by decide), hK', rest.1, rest.2.1, rest.2.2.1, rest.2.2.2.1, rest.2.2.2.2⟩
      · have hz : a2 = 0 := Decidable.not_not.mp hne
        simp only [e1, e2, e3, e4, ne10, if_true, if_false, if_pos hz]
        exact ⟨fun u1 _ _ u3 _ _ => ⟨fun _ => True.intro, fun z => absurd hz z⟩, ⟨fun z => z.elim, fun _ => ⟨fun z => z.elim, fun _ => ⟨fun _ => True.intro, fun z => absurd hz z⟩⟩⟩, 5, 0, 0, 3, Bc, Bl, Pk, Pr, Pl, Pc, K, Md, Ce, Le, Kc, Ko, Kl, Kd, Va, by first | rfl | (rw [if_neg (by decide)]), rfl, Or.inr (Or.inr (Or.inr (Or.inl rfl))), rfl, fun z => absurd z (by decide), hK, hV, hL, hP, hQ, hD⟩
    · simp only [e1, e2, e3, e4, ne10, if_true, if_false]
      exact ⟨fun u1 _ _ u3 hu h3 => absurd h3 (by rw [hu]; decide), ⟨fun z => z.elim, fun _ => ⟨fun _ => True.intro, fun z => absurd trivial z⟩⟩, 2, 0, 0, 2, Bc, Bl, Pk, Pr, Pl, Pc, K, Md, Ce, Le, Kc, Ko, Kl, Kd, Va, by first | rfl | (rw [if_neg (by decide)]), rfl, Or.inr (Or.inr (Or.inl rfl)), rfl, fun z => absurd z (by decide), hK, hV, hL, hP, hQ, hD⟩
  · simp only [e1, e2, if_true, if_false]
    exact ⟨fun u1 hu h1 => absurd h1 (by rw [hu]; decide), ⟨fun _ => True.intro, fun z => absurd trivial z⟩, 1, 0, 0, 1, Bc, Bl, Pk, Pr, Pl, Pc, K, Md, Ce, Le, Kc, Ko, Kl, Kd, Va, by first | rfl | (rw [if_neg (by decide)]), rfl, Or.inr (Or.inl rfl), rfl, fun z => absurd z (by decide), hK, hV, hL, hP, hQ, hD⟩

end
section
/-! add -/
theorem ltoInt_add (a b : Int64) (h1 : -9000000000000000000 ≤ a.toInt + b.toInt) (h2 : a.toInt + b.toInt ≤ 9000000000000000000) : (a + b).toInt = a.toInt + b.toInt := by
  rw [Int64.toInt_add, Int.bmod_def]
  split <;> omega
theorem fin_out {k : Nat} {Va : Nat → Int64} (h : f_X6_isWithin (nI k) Va = 0) (a1 a2 full Th : Int32) (Ce : Nat → Int64) (Le : Nat → Int32) (De Ke : Int32) (Kc : Nat → Int64) (Ko Kl Kd : Nat → Int32) :
    S_X6_finish (nI k) a1 a2 full Th Ce Le De Ke Kc Ko Kl Kd Va ∧ f_X6_finish (nI k) a1 a2 full Th Ce Le De Ke Kc Ko Kl Kd Va = (0, Th, Ce, Le, Ke, Kc, Ko, Kl, Kd) := by
  unfold S_X6_finish f_X6_finish
  simp only [h, if_true]
  exact ⟨⟨S_iw _ _, fun u hu => ⟨fun _ => True.intro, fun z => absurd hu z⟩⟩, trivial⟩
def AF (i : Nat) (x y : Int64) (F : Nat → Int64) : Nat → Int64 := if F i = 0 then (if y = 0 then vp_updL (vp_updL F i (F i + x)) (i + 1) 0 else if y ≤ 0 then F else if x = 0 then F else vp_updL (vp_updL F i x) (i + 1) y) else (if y = F (i + 1) then vp_updL (vp_updL F i (F i + x)) (i + 1) (F (i + 1)) else if y ≤ F (i + 1) then F else if x = 0 then F else vp_updL (vp_updL F i x) (i + 1) y)
theorem AF_X5 {i : Nat} (hi : i + 1 < 21) (x y : Int64) (F : Nat → Int64) : S_X5_addFlexible (nI i) x y F ∧ f_X5_addFlexible (nI i) x y F = AF i x y F := by
  have a : vp_in (nI i) 21 := v21 i (by omega)
  have b : vp_in (nI (i + 1)) 21 := v21 (i + 1) hi
  have c1 : (nI i).toNatClampNeg = i := clN (by omega)
  have c2 : (nI (i + 1)).toNatClampNeg = i + 1 := clN (by omega)
  unfold S_X5_addFlexible f_X5_addFlexible
  rw [← nI_succ, c1, c2]
  exact ⟨⟨a, fun _ => ⟨fun _ => ⟨a, a, b, True.intro⟩, fun _ => ⟨fun _ => True.intro, fun _ => ⟨fun _ => True.intro, fun _ => ⟨a, b, True.intro⟩⟩⟩⟩, fun _ => ⟨b, fun _ => ⟨a, a, b, True.intro⟩, fun _ => ⟨fun _ => True.intro, fun _ => ⟨fun _ => True.intro, fun _ => ⟨a, b, True.intro⟩⟩⟩⟩⟩, rfl⟩
theorem AF_X6 {i s : Nat} (hi : i + 1 < 21) (hs : s < 32) (Ce F : Nat → Int64) : S_X6_addPart (nI s) (nI i) Ce F ∧ f_X6_addPart (nI s) (nI i) Ce F = AF i (Ce (21 * (64 + s) + i)) (Ce (21 * (64 + s) + i + 1)) F := by
  have a : vp_in (nI i) 21 := v21 i (by omega)
  have b : vp_in (nI (i + 1)) 21 := v21 (i + 1) hi
  have c1 : (nI i).toNatClampNeg = i := clN (by omega)
  have c2 : (nI (i + 1)).toNatClampNeg = i + 1 := clN (by omega)
  have e : (21 : Int32) * ((64 : Int32) + nI s) = nI (21 * (64 + s)) := sixN 64 s
  have c3 : (nI (21 * (64 + s) + i)).toNatClampNeg = 21 * (64 + s) + i := clN (by omega)
  have c4 : (nI (21 * (64 + s) + i + 1)).toNatClampNeg = 21 * (64 + s) + i + 1 := clN (by omega)
  unfold S_X6_addPart f_X6_addPart
  rw [e, nI_add, ← nI_succ, ← nI_succ, c1, c2, c3, c4]
  exact ⟨⟨vin (by omega) (by omega), vin (by omega) (by omega), a, fun _ => ⟨fun _ => ⟨a, a, b, True.intro⟩, fun _ => ⟨fun _ => True.intro, fun _ => ⟨fun _ => True.intro, fun _ => ⟨a, b, True.intro⟩⟩⟩⟩, fun _ => ⟨b, fun _ => ⟨a, a, b, True.intro⟩, fun _ => ⟨fun _ => True.intro, fun _ => ⟨fun _ => True.intro, fun _ => ⟨a, b, True.intro⟩⟩⟩⟩⟩, rfl⟩
theorem AF_cong {i : Nat} (hi : i + 1 < 5) (x y : Int64) {u F : Nat → Int64} (h : ∀ j, j < 5 → u j = F j) : ∀ j, j < 5 → AF i x y u j = AF i x y F j := by
  intro j hj
  unfold AF
  rw [h i (by omega), h (i + 1) hi]
  repeat' split
  all_goals simp only [uL, h j hj]
theorem AF_ord {i : Nat} (hi : i = 1 ∨ i = 3) (x : Int64) {y : Int64} {F : Nat → Int64} (hy : 0 ≤ y.toInt ∧ y.toInt ≤ 3) (h2 : 0 ≤ (F 2).toInt ∧ (F 2).toInt ≤ 3) (h4 : 0 ≤ (F 4).toInt ∧ (F 4).toInt ≤ 3) :
    (0 ≤ (AF i x y F 2).toInt ∧ (AF i x y F 2).toInt ≤ 3) ∧ (0 ≤ (AF i x y F 4).toInt ∧ (AF i x y F 4).toInt ≤ 3) := by
  have h0 : 0 ≤ ((0 : Int64)).toInt ∧ ((0 : Int64)).toInt ≤ 3 := by decide
  have t2 : ∀ (G : Nat → Int64) (v w : Int64), vp_updL (vp_updL G 1 v) 2 w 2 = w := fun G v w => by rw [uL, if_pos rfl]
  have t4 : ∀ (G : Nat → Int64) (v w : Int64), vp_updL (vp_updL G 1 v) 2 w 4 = G 4 := fun G v w => by rw [uL, if_neg (by omega), uL, if_neg (by omega)]
  have s2 : ∀ (G : Nat → Int64) (v w : Int64), vp_updL (vp_updL G 3 v) 4 w 2 = G 2 := fun G v w => by rw [uL, if_neg (by omega), uL, if_neg (by omega)]
  have s4 : ∀ (G : Nat → Int64) (v w : Int64), vp_updL (vp_updL G 3 v) 4 w 4 = w := fun G v w => by rw [uL, if_pos rfl]
  unfold AF
  rcases hi with rfl | rfl
  · repeat' split
    all_goals first | exact ⟨h2, h4⟩ | (simp only [Nat.reduceAdd, t2, t4]; first | exact ⟨h0, h4⟩ | exact ⟨hy, h4⟩ | exact ⟨h2, h4⟩)
  · repeat' split
    all_goals first | exact ⟨h2, h4⟩ | (simp only [Nat.reduceAdd, s2, s4]; first | exact ⟨h2, h0⟩ | exact ⟨h2, hy⟩ | exact ⟨h2, h4⟩)
theorem addGlue_at {h : Nat} (hh : h + 5 ≤ 928) (Bc Md : Nat → Int64) : S_X5_addGlue (nI h) Bc Md ∧ f_X5_addGlue (nI h) Bc Md = AF 3 (Bc (h + 3)) (Bc (h + 4)) (AF 1 (Bc (h + 1)) (Bc (h + 2)) (vp_updL Md 0 (Md 0 + Bc h))) := by
  have e1 : nI h + 1 = nI (h + 1) := (nI_succ h).symm
  have e2 : nI (h + 1) + 1 = nI (h + 2) := (nI_succ (h + 1)).symm
  have e3 : nI h + (3 : Int32) = nI (h + 3) := nI_add h 3
  have e4 : nI (h + 3) + 1 = nI (h + 4) := (nI_succ (h + 3)).symm
  have c0 : (nI h).toNatClampNeg = h := clN (by omega)
  have c1 : (nI (h + 1)).toNatClampNeg = h + 1 := clN (by omega)
  have c2 : (nI (h + 2)).toNatClampNeg = h + 2 := clN (by omega)
  have c3 : (nI (h + 3)).toNatClampNeg = h + 3 := clN (by omega)
  have c4 : (nI (h + 4)).toNatClampNeg = h + 4 := clN (by omega)
  obtain ⟨s1, r1⟩ := AF_X5 (i := 1) (by omega) (Bc (h + 1)) (Bc (h + 2)) (vp_updL Md 0 (Md 0 + Bc h))
  obtain ⟨s3, r3⟩ := AF_X5 (i := 3) (by omega) (Bc (h + 3)) (Bc (h + 4)) (AF 1 (Bc (h + 1)) (Bc (h + 2)) (vp_updL Md 0 (Md 0 + Bc h)))
  have s1 : S_X5_addFlexible (1 : Int32) (Bc (h + 1)) (Bc (h + 2)) (vp_updL Md 0 (Md 0 + Bc h)) := s1
  have r1 : f_X5_addFlexible (1 : Int32) (Bc (h + 1)) (Bc (h + 2)) (vp_updL Md 0 (Md 0 + Bc h)) = AF 1 (Bc (h + 1)) (Bc (h + 2)) (vp_updL Md 0 (Md 0 + Bc h)) := r1
  have s3 : S_X5_addFlexible (3 : Int32) (Bc (h + 3)) (Bc (h + 4)) (AF 1 (Bc (h + 1)) (Bc (h + 2)) (vp_updL Md 0 (Md 0 + Bc h))) := s3
  have r3 : f_X5_addFlexible (3 : Int32) (Bc (h + 3)) (Bc (h + 4)) (AF 1 (Bc (h + 1)) (Bc (h + 2)) (vp_updL Md 0 (Md 0 + Bc h))) = AF 3 (Bc (h + 3)) (Bc (h + 4)) (AF 1 (Bc (h + 1)) (Bc (h + 2)) (vp_updL Md 0 (Md 0 + Bc h))) := r3
  unfold S_X5_addGlue f_X5_addGlue
  rw [e1, e2, e3, e4, c0, c1, c2, c3, c4, cl0, r1]
  refine ⟨⟨v21 0 (by omega), vin (by omega) (by omega), v21 0 (by omega), vin (by omega) (by omega), vin (by omega) (by omega), s1, fun u7 e7 => ?_⟩, r3⟩
  rw [e7]
  exact ⟨vin (by omega) (by omega), vin (by omega) (by omega), s3, fun _ _ => True.intro⟩
theorem regL (a : Int64) : (∃ s, s < 32 ∧ a = lN s ∧ f_X5_checkRegister a = 0 ∧ f_X5_within a 0 31 = 1) ∨ (f_X5_checkRegister a = 2 ∧ f_X5_within a 0 31 = 0) := by
  unfold f_X5_checkRegister
  rcases win a 0 31 with ⟨h, h1, h2⟩ | ⟨h, h1⟩
  · have l0 : (0 : Int64).toInt = 0 := rfl
    have l31 : (31 : Int64).toInt = 31 := rfl
    refine Or.inl ⟨a.toInt.toNat, by omega, ?_, by rw [h, if_neg ne10], h⟩
    apply Int64.toInt_inj.mp
    rw [lN_toInt (by omega)]
    omega
  · exact Or.inr ⟨by rw [h, if_pos rfl], h⟩
theorem r_add {d K : Nat} {Bc Ce : Nat → Int64} {Bl Le Pk Pr Pl Ko Kl Kd Gf : Nat → Int32} {Pc Kc : Nat → Int64} (hd : d ≤ 20) (hK : K ≤ 200)
    (hV : RV Bc Ce) (hL : RLv Bl Le) (hP : RP K Pk Pr Pl Pc Ko Kl Kc) (hQ : RKv K Kl) (hD : RD d K Gf Kd) (a0 a1 : Int32) (a2 : Int64) (a3 Th : Int32) (Md Va : Nat → Int64) :
    S_X5_add a0 a1 a2 a3 Bc Bl Pk Pr Pl Pc (nI K) (nI d) Md ∧ S_X6_add a0 a1 a2 a3 Th Ce Le (nI d) (nI K) Kc Ko Kl Kd Va ∧
    ∃ (o : Nat) (y y' th : Int32) (Bc' : Nat → Int64) (Bl' Pk' Pr' Pl' : Nat → Int32) (Pc' : Nat → Int64) (K' : Nat) (Md' Ce' : Nat → Int64) (Le' : Nat → Int32) (Kc' : Nat → Int64) (Ko' Kl' Kd' : Nat → Int32) (Va' : Nat → Int64),
      f_X5_add a0 a1 a2 a3 Bc Bl Pk Pr Pl Pc (nI K) (nI d) Md = (o, y, Bc', Bl', Pk', Pr', Pl', Pc', nI K', Md') ∧
      f_X6_add a0 a1 a2 a3 Th Ce Le (nI d) (nI K) Kc Ko Kl Kd Va = (y', th, Ce', Le', nI K', Kc', Ko', Kl', Kd', Va') ∧
      (o = 0 ∨ o = 1 ∨ o = 2 ∨ o = 3) ∧ th = k_L_add o ∧ (o = 0 → y = y') ∧ K' ≤ 200 ∧ RV Bc' Ce' ∧ RLv Bl' Le' ∧ RP K' Pk' Pr' Pl' Pc' Ko' Kl' Kc' ∧ RKv K' Kl' ∧ RD d K' Gf Kd' := by
  unfold S_X5_add S_X6_add f_X5_add f_X6_add
  rw [in_eq]
  have hk2 := kin2 a0
  rw [in_eq] at hk2
  rcases hk2 with ⟨k, hk, rfl, e1, e2⟩ | ⟨e1, e2⟩
  · have i2 : (nI k = (2 : Int32)) ↔ k = 2 := nI_eq (b := 2) (by omega) (by omega)
    rcases reg a1 with ⟨r, hr, rfl, e3, e4⟩ | ⟨e3, e4⟩
    · by_cases k2 : k = 2
      · subst k2
        have k2' : nI 2 = (2 : Int32) := rfl
        rcases regL a2 with ⟨s, hs, rfl, e8, e9⟩ | ⟨e8, e9⟩
        · obtain ⟨sc, ec⟩ := copyTo_at (k := 2) (by omega) hr hV Md
          obtain ⟨sf, ef⟩ := fetch_at (k := 2) (by omega) hr Ce Va
          have sc : S_X0_copyTo (2 : Int32) (nI r) Bc Md := sc
          have ec : ∀ j, j < 5 → f_X0_copyTo (2 : Int32) (nI r) Bc Md j = Ce (21 * (32 * 2 + r) + j) := ec
          have x1 : (lN s).toInt32 = nI s := lN_i s
          have x2 : f_X0_home (2 : Int32) (nI s) = nI (64 + s * 5) := home2 s
          have x3 : (21 : Int32) * ((64 : Int32) + nI s) = nI (21 * (64 + s)) := sixN 64 s
          have c3 : (nI (21 * (64 + s))).toNatClampNeg = 21 * (64 + s) := clN (by omega)
          obtain ⟨sg, eg⟩ := addGlue_at (h := 64 + s * 5) (by omega) Bc (f_X0_copyTo (2 : Int32) (nI r) Bc Md)
          obtain ⟨so, ho⟩ := hV 2 s (by omega) hs
          have ho : ∀ j, j < 5 → Bc (64 + s * 5 + j) = Ce (21 * (64 + s) + j) := ho
          have so := (so.2.2.1 rfl).2.2.2
          have so : (0 ≤ (Ce (21 * (64 + s) + 2)).toInt ∧ (Ce (21 * (64 + s) + 2)).toInt ≤ 3) ∧ (0 ≤ (Ce (21 * (64 + s) + 4)).toInt ∧ (Ce (21 * (64 + s) + 4)).toInt ≤ 3) := so
          obtain ⟨p1, q1⟩ := AF_X6 (i := 1) (s := s) (by omega) hs Ce (vp_updL (f_X6_fetch (nI 2) (nI r) Ce Va) 0 (f_X6_fetch (nI 2) (nI r) Ce Va 0 + Ce (21 * (64 + s))))
          obtain ⟨p3, q3⟩ := AF_X6 (i := 3) (s := s) (by omega) hs Ce (AF 1 (Ce (21 * (64 + s) + 1)) (Ce (21 * (64 + s) + 2)) (vp_updL (f_X6_fetch (nI 2) (nI r) Ce Va) 0 (f_X6_fetch (nI 2) (nI r) Ce Va 0 + Ce (21 * (64 + s)))))
          have p1' : S_X6_addPart (lN s).toInt32 (1 : Int32) Ce (vp_updL (f_X6_fetch (nI 2) (nI r) Ce Va) (0 : Int32).toNatClampNeg ((f_X6_fetch (nI 2) (nI r) Ce Va) (0 : Int32).toNatClampNeg + (Ce ((21 : Int32) * ((64 : Int32) + (lN s).toInt32)).toNatClampNeg))) := by
            rw [x1, x3, c3]; exact p1
          have q1' : (f_X6_addPart (lN s).toInt32 (1 : Int32) Ce (vp_updL (f_X6_fetch (nI 2) (nI r) Ce Va) (0 : Int32).toNatClampNeg ((f_X6_fetch (nI 2) (nI r) Ce Va) (0 : Int32).toNatClampNeg + (Ce ((21 : Int32) * ((64 : Int32) + (lN s).toInt32)).toNatClampNeg)))) = AF 1 (Ce (21 * (64 + s) + 1)) (Ce (21 * (64 + s) + 2)) (vp_updL (f_X6_fetch (nI 2) (nI r) Ce Va) 0 (f_X6_fetch (nI 2) (nI r) Ce Va 0 + Ce (21 * (64 + s)))) := by
            rw [x1, x3, c3]; exact q1
          have p3' : S_X6_addPart (lN s).toInt32 (3 : Int32) Ce (f_X6_addPart (lN s).toInt32 (1 : Int32) Ce (vp_updL (f_X6_fetch (nI 2) (nI r) Ce Va) (0 : Int32).toNatClampNeg ((f_X6_fetch (nI 2) (nI r) Ce Va) (0 : Int32).toNatClampNeg + (Ce ((21 : Int32) * ((64 : Int32) + (lN s).toInt32)).toNatClampNeg)))) := by
            rw [q1', x1]; exact p3
          have q3' : (f_X6_addPart (lN s).toInt32 (3 : Int32) Ce (f_X6_addPart (lN s).toInt32 (1 : Int32) Ce (vp_updL (f_X6_fetch (nI 2) (nI r) Ce Va) (0 : Int32).toNatClampNeg ((f_X6_fetch (nI 2) (nI r) Ce Va) (0 : Int32).toNatClampNeg + (Ce ((21 : Int32) * ((64 : Int32) + (lN s).toInt32)).toNatClampNeg))))) = AF 3 (Ce (21 * (64 + s) + 3)) (Ce (21 * (64 + s) + 4)) (AF 1 (Ce (21 * (64 + s) + 1)) (Ce (21 * (64 + s) + 2)) (vp_updL (f_X6_fetch (nI 2) (nI r) Ce Va) 0 (f_X6_fetch (nI 2) (nI r) Ce Va 0 + Ce (21 * (64 + s))))) := by
            rw [q1', x1]; exact q3
          have sg' : S_X5_addGlue (f_X0_home (2 : Int32) (lN s).toInt32) Bc (f_X0_copyTo (2 : Int32) (nI r) Bc Md) := by
            rw [x1, x2]; exact sg
          have eg' : (f_X5_addGlue (f_X0_home (2 : Int32) (lN s).toInt32) Bc (f_X0_copyTo (2 : Int32) (nI r) Bc Md)) = AF 3 (Bc (64 + s * 5 + 3)) (Bc (64 + s * 5 + 4)) (AF 1 (Bc (64 + s * 5 + 1)) (Bc (64 + s * 5 + 2)) (vp_updL (f_X0_copyTo (2 : Int32) (nI r) Bc Md) 0 ((f_X0_copyTo (2 : Int32) (nI r) Bc Md) 0 + Bc (64 + s * 5)))) := by
            rw [x1, x2]; exact eg
          have hu0 : ∀ j, j < 5 → (f_X0_copyTo (2 : Int32) (nI r) Bc Md) j = f_X6_fetch (nI 2) (nI r) Ce Va j := fun j hj => (ec j hj).trans (ef j (by omega)).symm
          have hu1 : ∀ j, j < 5 → vp_updL (f_X0_copyTo (2 : Int32) (nI r) Bc Md) 0 ((f_X0_copyTo (2 : Int32) (nI r) Bc Md) 0 + Bc (64 + s * 5)) j = vp_updL (f_X6_fetch (nI 2) (nI r) Ce Va) 0 (f_X6_fetch (nI 2) (nI r) Ce Va 0 + Ce (21 * (64 + s))) j := by
            intro j hj
            have e := ho 0 (by omega)
            have e : Bc (64 + s * 5) = Ce (21 * (64 + s)) := e
            simp only [uL]
            rw [e, hu0 0 (by omega), hu0 j hj]
          have hv : ∀ j, j < wd 2 → (f_X5_addGlue (f_X0_home (2 : Int32) (lN s).toInt32) Bc (f_X0_copyTo (2 : Int32) (nI r) Bc Md)) j = (f_X6_addPart (lN s).toInt32 (3 : Int32) Ce (f_X6_addPart (lN s).toInt32 (1 : Int32) Ce (vp_updL (f_X6_fetch (nI 2) (nI r) Ce Va) (0 : Int32).toNatClampNeg ((f_X6_fetch (nI 2) (nI r) Ce Va) (0 : Int32).toNatClampNeg + (Ce ((21 : Int32) * ((64 : Int32) + (lN s).toInt32)).toNatClampNeg))))) j := by
            intro j hj
            have hj : j < 5 := hj
            rw [eg', q3', ho 1 (by omega), ho 2 (by omega), ho 3 (by omega), ho 4 (by omega)]
            exact AF_cong (by omega) _ _ (AF_cong (by omega) _ _ hu1) j hj
          have hz : ∀ j, j < 5 → 0 < j → vp_updL (f_X6_fetch (nI 2) (nI r) Ce Va) 0 (f_X6_fetch (nI 2) (nI r) Ce Va 0 + Ce (21 * (64 + s))) j = Ce (21 * (32 * 2 + r) + j) := by
            intro j hj h0
            rw [uL, if_neg (by omega), ef j (by omega)]
          have hr2 := ((hV 2 r (by omega) hr).1.2.2.1 rfl).2.2.2
          have h2 : 2 = 2 → (0 ≤ ((f_X6_addPart (lN s).toInt32 (3 : Int32) Ce (f_X6_addPart (lN s).toInt32 (1 : Int32) Ce (vp_updL (f_X6_fetch (nI 2) (nI r) Ce Va) (0 : Int32).toNatClampNeg ((f_X6_fetch (nI 2) (nI r) Ce Va) (0 : Int32).toNatClampNeg + (Ce ((21 : Int32) * ((64 : Int32) + (lN s).toInt32)).toNatClampNeg))))) 2).toInt ∧ ((f_X6_addPart (lN s).toInt32 (3 : Int32) Ce (f_X6_addPart (lN s).toInt32 (1 : Int32) Ce (vp_updL (f_X6_fetch (nI 2) (nI r) Ce Va) (0 : Int32).toNatClampNeg ((f_X6_fetch (nI 2) (nI r) Ce Va) (0 : Int32).toNatClampNeg + (Ce ((21 : Int32) * ((64 : Int32) + (lN s).toInt32)).toNatClampNeg))))) 2).toInt ≤ 3) ∧ (0 ≤ ((f_X6_addPart (lN s).toInt32 (3 : Int32) Ce (f_X6_addPart (lN s).toInt32 (1 : Int32) Ce (vp_updL (f_X6_fetch (nI 2) (nI r) Ce Va) (0 : Int32).toNatClampNeg ((f_X6_fetch (nI 2) (nI r) Ce Va) (0 : Int32).toNatClampNeg + (Ce ((21 : Int32) * ((64 : Int32) + (lN s).toInt32)).toNatClampNeg))))) 4).toInt ∧ ((f_X6_addPart (lN s).toInt32 (3 : Int32) Ce (f_X6_addPart (lN s).toInt32 (1 : Int32) Ce (vp_updL (f_X6_fetch (nI 2) (nI r) Ce Va) (0 : Int32).toNatClampNeg ((f_X6_fetch (nI 2) (nI r) Ce Va) (0 : Int32).toNatClampNeg + (Ce ((21 : Int32) * ((64 : Int32) + (lN s).toInt32)).toNatClampNeg))))) 4).toInt ≤ 3) := by
            intro _
            rw [q3']
            have a1 := AF_ord (i := 1) (Or.inl rfl) (Ce (21 * (64 + s) + 1)) so.1 (F := vp_updL (f_X6_fetch (nI 2) (nI r) Ce Va) 0 (f_X6_fetch (nI 2) (nI r) Ce Va 0 + Ce (21 * (64 + s)))) (by rw [hz 2 (by omega) (by omega)]; exact hr2.1) (by rw [hz 4 (by omega) (by omega)]; exact hr2.2)
            exact AF_ord (i := 3) (Or.inr rfl) (Ce (21 * (64 + s) + 3)) so.2 a1.1 a1.2
          obtain ⟨s5, s6, o, y, th, Bc', Bl', Pk', Pr', Pl', Pc', K', Ce', Le', Kc', Ko', Kl', Kd', e5, e6, hc, hK', rest⟩ := r_fin hd hK hV hL hP hQ hD (k := 2) (by omega) hr a3 3 (by decide) hv h2 (fun z => absurd z (by omega)) (fun z => absurd z (by omega))
          refine ⟨fun u1 _ _ u3 _ _ => ⟨fun _ u14 _ _ => ⟨sc, fun u17 e17 => by rw [e17]; exact ⟨by rw [x1]; exact S_homeN (k := 2) (by omega) _, sg', fun u20 e20 => by rw [e20]; exact ⟨s5, fun _ _ _ => True.intro⟩⟩⟩, fun z => absurd k2' z⟩,
            ⟨fun _ => True.intro, fun _ => ⟨fun _ => True.intro, fun _ => ⟨fun _ => ⟨fun _ => True.intro, fun _ => ⟨sf, fun u17 e17 => by rw [e17]; exact ⟨v21 0 (by omega), by rw [x1, x3]; exact vin (by omega) (by omega), v21 0 (by omega), p1', fun u23 e23 => by rw [e23]; exact ⟨p3', fun u25 e25 => by rw [e25]; exact ⟨s6, fun _ _ => True.intro⟩⟩⟩⟩⟩, fun z => absurd k2' z⟩⟩⟩, ?_⟩
          simp only [e1, e2, e3, e4, e8, e9, ne10, if_true, if_false, if_pos k2', e5, e6]
          rcases hc with ⟨rfl, rfl, hy⟩ | ⟨rfl, rfl, rfl⟩
          · simp only [if_true]
            exact ⟨0, _, _, _, _, _, _, _, _, _, K', _, _, _, _, _, _, _, _, rfl, rfl, Or.inl rfl, rfl, fun _ => rfl, hK', rest.1, rest.2.1, rest.2.2.1, rest.2.2.2.1, rest.2.2.2.2⟩
          · simp only [n30, if_false]
            exact ⟨3, _, _, _, _, _, _, _, _, _, K', _, _, _, _, _, _, _, _, rfl, rfl, Or.inr (Or.inr (Or.inr rfl)), rfl, fun z => absurd z (by decide), hK', rest.1, rest.2.1, rest.2.2.1, rest.2.2.2.1, rest.2.2.2.2⟩
        · simp only [e1, e2, e3, e4, e8, e9, ne10, if_true, if_false, if_pos k2']
          exact ⟨fun u1 _ _ u3 _ _ => ⟨fun _ u14 hu h14 => absurd h14 (by rw [hu]; decide), fun z => absurd k2' z⟩, ⟨fun z => z.elim, fun _ => ⟨fun z => z.elim, fun _ => ⟨fun _ => ⟨fun _ => True.intro, fun z => absurd trivial z⟩, fun z => absurd k2' z⟩⟩⟩, 2, 0, 0, 2, Bc, Bl, Pk, Pr, Pl, Pc, K, Md, Ce, Le, Kc, Ko, Kl, Kd, Va, by first | rfl | (rw [if_neg (by decide)]), rfl, Or.inr (Or.inr (Or.inl rfl)), rfl, fun z => absurd z (by decide), hK, hV, hL, hP, hQ, hD⟩
      · have k2' : ¬ nI k = (2 : Int32) := fun z => k2 (i2.mp z)
        have hwd : wd k = 1 := by
          rcases (show k = 0 ∨ k = 1 by omega) with rfl | rfl <;> rfl
        obtain ⟨sc, ec⟩ := copyTo_at (k := k) (by omega) hr hV Md
        obtain ⟨sf, ef⟩ := fetch_at (k := k) (by omega) hr Ce Va
        have l4a : (-4294967294 : Int64).toInt = -4294967294 := by decide
        have l4b : (4294967294 : Int64).toInt = 4294967294 := by decide
        have l6a : (-6442450941 : Int64).toInt = -6442450941 := by decide
        have l6b : (6442450941 : Int64).toInt = 6442450941 := by decide
        rcases win a2 (-4294967294) 4294967294 with ⟨e8, b1, b2⟩ | ⟨e8, b⟩
        · have e9 : f_X5_within a2 (-6442450941) 6442450941 = 1 := w1 (by omega) (by omega)
          have hv : ∀ j, j < wd k → (vp_updL (f_X0_copyTo (nI k) (nI r) Bc Md) (0 : Int32).toNatClampNeg ((f_X0_copyTo (nI k) (nI r) Bc Md) (0 : Int32).toNatClampNeg + a2)) j = (vp_updL (f_X6_fetch (nI k) (nI r) Ce Va) (0 : Int32).toNatClampNeg ((f_X6_fetch (nI k) (nI r) Ce Va) (0 : Int32).toNatClampNeg + a2)) j := by
            intro j hj
            have j0 : j = 0 := by omega
            subst j0
            simp only [uL, cl0, if_true]
            rw [ec 0 (by omega), ef 0 (by omega)]
          obtain ⟨s5, s6, o, y, th, Bc', Bl', Pk', Pr', Pl', Pc', K', Ce', Le', Kc', Ko', Kl', Kd', e5, e6, hc, hK', rest⟩ := r_fin hd hK hV hL hP hQ hD (k := k) (by omega) hr a3 3 (by decide) hv (fun z => absurd z k2) (fun z => absurd z (by omega)) (fun z => absurd z (by omega))
          refine ⟨fun u1 _ _ u3 _ _ => ⟨fun z => absurd z k2', fun _ => ⟨fun _ => True.intro, fun _ => ⟨sc, fun u8 e88 => by rw [e88]; exact ⟨v21 0 (by omega), v21 0 (by omega), s5, fun _ _ _ => True.intro⟩⟩⟩⟩,
            ⟨fun _ => True.intro, fun _ => ⟨fun _ => True.intro, fun _ => ⟨fun z => absurd z k2', fun _ => ⟨sf, fun u7 e77 => by rw [e77]; exact ⟨fun _ => True.intro, fun _ => ⟨v21 0 (by omega), v21 0 (by omega), s6, fun _ _ => True.intro⟩⟩⟩⟩⟩⟩, ?_⟩
          simp only [e1, e2, e3, e4, e8, e9, ne10, if_true, if_false, if_neg k2', e5, e6]
          rcases hc with ⟨rfl, rfl, hy⟩ | ⟨rfl, rfl, rfl⟩
          · simp only [if_true]
            exact ⟨0, _, _, _, _, _, _, _, _, _, K', _, _, _, _, _, _, _, _, rfl, rfl, Or.inl rfl, rfl, fun _ => rfl, hK', rest.1, rest.2.1, rest.2.2.1, rest.2.2.2.1, rest.2.2.2.2⟩
          · simp only [n30, if_false]
            exact ⟨3, _, _, _, _, _, _, _, _, _, K', _, _, _, _, _, _, _, _, rfl, rfl, Or.inr (Or.inr (Or.inr rfl)), rfl, fun z => absurd z (by decide), hK', rest.1, rest.2.1, rest.2.2.1, rest.2.2.2.1, rest.2.2.2.2⟩
        · rcases win a2 (-6442450941) 6442450941 with ⟨e9, b1, b2⟩ | ⟨e9, b9⟩
          · have hout : f_X6_isWithin (nI k) (vp_updL (f_X6_fetch (nI k) (nI r) Ce Va) (0 : Int32).toNatClampNeg ((f_X6_fetch (nI k) (nI r) Ce Va) (0 : Int32).toNatClampNeg + a2)) = 0 := by
              have hb := (hV k r (by omega) hr).1
              have v0 : (vp_updL (f_X6_fetch (nI k) (nI r) Ce Va) (0 : Int32).toNatClampNeg ((f_X6_fetch (nI k) (nI r) Ce Va) (0 : Int32).toNatClampNeg + a2)) 0 = Ce (21 * (32 * k + r) + 0) + a2 := by
                simp only [uL, cl0, if_true]
                rw [ef 0 (by omega)]
              rw [iw_eq]
              rcases (show k = 0 ∨ k = 1 by omega) with rfl | rfl
              · rw [mf0, v0]
                have h0 : -2147483647 ≤ (Ce (21 * (32 * 0 + r) + 0)).toInt ∧ (Ce (21 * (32 * 0 + r) + 0)).toInt ≤ 2147483647 := hb.1 rfl
                have l1 : (-2147483647 : Int64).toInt = -2147483647 := by decide
                have l2 : (2147483647 : Int64).toInt = 2147483647 := by decide
                refine w0 ?_
                rw [ltoInt_add _ _ (by omega) (by omega)]
                omega
              · rw [mf1, v0]
                have h0 : -1073741823 ≤ (Ce (21 * (32 * 1 + r) + 0)).toInt ∧ (Ce (21 * (32 * 1 + r) + 0)).toInt ≤ 1073741823 := hb.2.1 rfl
                have l1 : (-1073741823 : Int64).toInt = -1073741823 := by decide
                have l2 : (1073741823 : Int64).toInt = 1073741823 := by decide
                refine w0 ?_
                rw [ltoInt_add _ _ (by omega) (by omega)]
                omega
            obtain ⟨s6, e6⟩ := fin_out hout (nI r) a3 3 0 Ce Le (nI d) (nI K) Kc Ko Kl Kd
            refine ⟨fun u1 _ _ u3 _ _ => ⟨fun z => absurd z k2', fun _ => ⟨fun _ => True.intro, fun z => absurd e8 z⟩⟩,
              ⟨fun _ => True.intro, fun _ => ⟨fun _ => True.intro, fun _ => ⟨fun z => absurd z k2', fun _ => ⟨sf, fun u7 e77 => by rw [e77]; exact ⟨fun _ => True.intro, fun _ => ⟨v21 0 (by omega), v21 0 (by omega), s6, fun _ _ => True.intro⟩⟩⟩⟩⟩⟩, ?_⟩
            simp only [e1, e2, e3, e4, e8, e9, ne10, if_true, if_false, if_neg k2', e6]
            exact ⟨0, 0, 0, 0, Bc, Bl, Pk, Pr, Pl, Pc, K, Md, Ce, Le, Kc, Ko, Kl, Kd, _, rfl, rfl, Or.inl rfl, rfl, fun _ => rfl, hK, hV, hL, hP, hQ, hD⟩
          · refine ⟨fun u1 _ _ u3 _ _ => ⟨fun z => absurd z k2', fun _ => ⟨fun _ => True.intro, fun z => absurd e8 z⟩⟩,
              ⟨fun _ => True.intro, fun _ => ⟨fun _ => True.intro, fun _ => ⟨fun z => absurd z k2', fun _ => ⟨sf, fun u7 e77 => by rw [e77]; exact ⟨fun _ => True.intro, fun z => absurd e9 z⟩⟩⟩⟩⟩, ?_⟩
            simp only [e1, e2, e3, e4, e8, e9, ne10, if_true, if_false, if_neg k2']
            exact ⟨0, 0, 0, 0, Bc, Bl, Pk, Pr, Pl, Pc, K, Md, Ce, Le, Kc, Ko, Kl, Kd, _, rfl, rfl, Or.inl rfl, rfl, fun _ => rfl, hK, hV, hL, hP, hQ, hD⟩
    · simp only [e1, e2, e3, e4, ne10, if_true, if_false]
      exact ⟨fun u1 _ _ u3 hu h3 => absurd h3 (by rw [hu]; decide), ⟨fun z => z.elim, fun _ => ⟨fun _ => True.intro, fun z => absurd trivial z⟩⟩, 2, 0, 0, 2, Bc, Bl, Pk, Pr, Pl, Pc, K, Md, Ce, Le, Kc, Ko, Kl, Kd, Va, by first | rfl | (rw [if_neg (by decide)]), rfl, Or.inr (Or.inr (Or.inl rfl)), rfl, fun z => absurd z (by decide), hK, hV, hL, hP, hQ, hD⟩
  · simp only [e1, e2, if_true, if_false]
    exact ⟨fun u1 hu h1 => absurd h1 (by rw [hu]; decide), ⟨fun _ => True.intro, fun z => absurd trivial z⟩, 1, 0, 0, 1, Bc, Bl, Pk, Pr, Pl, Pc, K, Md, Ce, Le, Kc, Ko, Kl, Kd, Va, by first | rfl | (rw [if_neg (by decide)]), rfl, Or.inr (Or.inl rfl), rfl, fun z => absurd z (by decide), hK, hV, hL, hP, hQ, hD⟩

end
section
/-! end: what a group kept is given back -/
theorem dn (p : Nat) (h : p + 1 < 2147483648) : nI (p + 1) + (-1) = nI p := by
  rw [← Int32.sub_eq_add_neg]
  have e := pk_sub (a := p + 1) (b := 1) (by omega)
  exact e
theorem dn1 (p : Nat) (h : p + 1 < 2147483648) : nI (p + 1) - (1 : Int32) = nI p := by
  have e := pk_sub (a := p + 1) (b := 1) (by omega)
  exact e
theorem cpy_sh (f g : Nat → Int64) (sp dp n : Nat) : va_cpy f g sp dp n = va_cpy (fun j => f (sp + j)) g 0 dp n := by
  funext i
  by_cases h : dp ≤ i ∧ i < dp + n
  · obtain ⟨j, rfl⟩ : ∃ j, i = dp + j := ⟨i - dp, by omega⟩
    rw [cpy_in (by omega), cpy_in (by omega), Nat.zero_add]
  · rw [pk_cpy_out (by omega), pk_cpy_out (by omega)]
theorem L_124 {p0 p : Nat} (hp0 : p0 < 160) (hp : p < 200) {Le : Nat → Int32} (hL : ¬ Le p0 = 0) (Kc : Nat → Int64) : ∀ (n x : Nat) (Ce : Nat → Int64), x ≤ 21 → 21 - x < n → SL_X6_end_124 n (nI x) Ce (nI p0) Le (nI p) Kc ∧ (L_X6_end_124 n (nI x) Ce (nI p0) Le (nI p) Kc).2 = fl Ce (21 * p0) (fun j => Kc (21 * p + j)) x := by
  intro n
  induction n with
  | zero => intro x Ce _ h; exact absurd h (Nat.not_lt_zero _)
  | succ n ih =>
    intro x Ce hx h
    rw [SL_X6_end_124, L_X6_end_124]
    by_cases hc : 21 ≤ x
    · have y : (21 : Int32) ≤ nI x := (n21 x (by omega)).mpr hc
      rw [if_pos y]
      exact ⟨⟨fun _ => True.intro, fun z => absurd y z⟩, (fl_end _ _ _ hc).symm⟩
    · have y : ¬ (21 : Int32) ≤ nI x := fun z => hc ((n21 x (by omega)).mp z)
      have c0 : (nI p0).toNatClampNeg = p0 := clN (by omega)
      rw [if_neg y, c0, if_neg hL, m21, m21, nI_add, nI_add, clN (n := 21 * p0 + x) (by omega), clN (n := 21 * p + x) (by omega), ← nI_succ]
      obtain ⟨s1, s2⟩ := ih (x + 1) (vp_updL Ce (21 * p0 + x) (Kc (21 * p + x))) (by omega) (by omega)
      refine ⟨⟨fun z => absurd z y, fun _ => ⟨vin (by omega) (by omega), fun z => absurd z hL, fun _ => ⟨vin (by omega) (by omega), vin (by omega) (by omega), s1⟩⟩⟩, ?_⟩
      rw [s2]
      exact fl_step Ce (21 * p0) (fun j => Kc (21 * p + j)) (by omega)
theorem L_124z {p0 : Nat} (hp0 : p0 < 160) {Le : Nat → Int32} (hL : Le p0 = 0) (Ke : Int32) (Kc Ce : Nat → Int64) : SL_X6_end_124 22 (0 : Int32) Ce (nI p0) Le Ke Kc ∧ (L_X6_end_124 22 (0 : Int32) Ce (nI p0) Le Ke Kc).2 = Ce := by
  have c0 : (nI p0).toNatClampNeg = p0 := clN (by omega)
  rw [SL_X6_end_124, L_X6_end_124, c0, if_pos hL, if_neg (by decide)]
  exact ⟨⟨fun _ => True.intro, fun _ => ⟨vin (by omega) (by omega), fun _ => True.intro, fun z => absurd hL z⟩⟩, rfl⟩
theorem RE_push {m k r : Nat} {Ek Er Ea Gg Ga : Nat → Int32} (h : RE m Ek Er Ea Gg Ga) (hk : k < 5) (hr : r < 32) (a : Int32) : RE (m + 1) (upd Ek m (nI k)) (upd Er m (nI r)) (upd Ea m a) (upd Gg m (nI (32 * k + r))) (upd Ga m a) := by
  intro q hq
  by_cases z : q = m
  · simp only [uI, if_pos z]
    exact ⟨k, r, hk, hr, rfl, rfl, rfl, trivial⟩
  · simp only [uI, if_neg z]
    exact h q (by omega)
theorem appN {m : Nat} (hm' : m < 200) (a0 a1 : Int32) (a : Int32) (ha : a = 0 ∨ a = 1) (Ek Er Ea : Nat → Int32) (b : Int32) : S_X1_append a0 a1 a Ek Er Ea (nI m) b ∧ f_X1_append a0 a1 a Ek Er Ea (nI m) b = (upd Ek m a0, upd Er m a1, upd Ea m a, nI (m + 1), b + a) := by
  have n1 : ¬ nI m < 0 := nI_pos (by omega)
  have n2 : ¬ (200 : Int32) ≤ nI m := fun z => by have := (nI_leI (a := 200) (b := m) (by omega) (by omega)).mp z; omega
  have c0 : (nI m).toNatClampNeg = m := clN (by omega)
  have hv : vp_in (nI m) 200 := vin hm' (by omega)
  unfold S_X1_append f_X1_append
  refine ⟨⟨fun _ => True.intro, fun _ => ⟨fun _ => True.intro, fun _ => ⟨hv, hv, fun _ => ⟨hv, hv, True.intro⟩, fun _ => ⟨hv, hv, True.intro⟩⟩⟩⟩, ?_⟩
  rw [if_neg n1, if_neg n2, c0, ← nI_succ]
  rcases ha with rfl | rfl
  · rw [if_pos rfl, uI, if_pos rfl]
  · rw [if_neg ne10, uI, if_pos rfl]
theorem cpyP {k r p : Nat} (hk : k < 5) (hr : r < 32) (hp : p < 200) (Bc Pc : Nat → Int64) : S_X0_copyFromP (nI p * (21 : Int32)) (nI k) (nI r) Bc Pc ∧ f_X0_copyFromP (nI p * (21 : Int32)) (nI k) (nI r) Bc Pc = va_cpy (fun j => Pc (p * 21 + j)) Bc 0 (hm k + r * wd k) (wd k) := by
  have hw := wd_le hk
  have hl := hm_le hk hr
  have e1 : nI p * (21 : Int32) = nI (p * 21) := by rw [show (21 : Int32) = nI 21 from rfl, pk_mul]
  have c0 : (nI (p * 21)).toNatClampNeg = p * 21 := clN (by omega)
  have c1 : (nI (hm k + r * wd k)).toNatClampNeg = hm k + r * wd k := clN (by omega)
  have c2 : (nI (wd k)).toNatClampNeg = wd k := clN (by omega)
  unfold S_X0_copyFromP f_X0_copyFromP
  rw [e1, homeN hk, gW hk, c0, c1, c2]
  exact ⟨⟨S_homeN hk _, vin (by omega) (by omega), nI_pos (by omega), nI_pos (by omega), nI_pos (by omega), by omega, by omega, True.intro⟩, cpy_sh _ _ _ _ _⟩
theorem L_end32 {K g d : Nat} {Pk Pr Pl Ko Kl Kd : Nat → Int32} {Pc Kc : Nat → Int64} (hK : K ≤ 200) (hd1 : 0 < d) (hd : d ≤ 20) (hP : RP K Pk Pr Pl Pc Ko Kl Kc) (hQ : RKv K Kl) (hT : ∀ q, q < K → ∃ e, Kd q = nI e ∧ 1 ≤ e ∧ e ≤ d ∧ (g ≤ q ↔ e = d)) :
    ∀ (n q : Nat) (b : Int32) (Bc : Nat → Int64) (Bl Ek Er Ea : Nat → Int32) (Ce : Nat → Int64) (Le Gg Ga : Nat → Int32), g ≤ q → q ≤ K → q - g < n → RV Bc Ce → RLv Bl Le → RE (K - q) Ek Er Ea Gg Ga →
      SL_X5_giveBackKept_10 n (nI q + (-1)) Bc Bl Ek Er Ea (nI (K - q)) b (nI g) Pk Pr Pl Pc ∧ SL_X6_end_32 n b Ce Le (nI q) (nI (K - q)) Gg Ga (nI d) Kc Ko Kl Kd ∧
      ∃ (x' b' : Int32) (Bc' : Nat → Int64) (Bl' Ek' Er' Ea' : Nat → Int32) (Ce' : Nat → Int64) (Le' Gg' Ga' : Nat → Int32), L_X5_giveBackKept_10 n (nI q + (-1)) Bc Bl Ek Er Ea (nI (K - q)) b (nI g) Pk Pr Pl Pc = (x', Bc', Bl', Ek', Er', Ea', nI (K - g), b') ∧ L_X6_end_32 n b Ce Le (nI q) (nI (K - q)) Gg Ga (nI d) Kc Ko Kl Kd = (b', Ce', Le', nI g, nI (K - g), Gg', Ga') ∧ RV Bc' Ce' ∧ RLv Bl' Le' ∧ RE (K - g) Ek' Er' Ea' Gg' Ga' := by
  intro n
  induction n with
  | zero => intro q b Bc Bl Ek Er Ea Ce Le Gg Ga _ _ h; exact absurd h (Nat.not_lt_zero _)
  | succ n ih =>
    intro q b Bc Bl Ek Er Ea Ce Le Gg Ga hgq hqK hn hV hL hE
    rw [SL_X5_giveBackKept_10, L_X5_giveBackKept_10, SL_X6_end_32, L_X6_end_32]
    rcases Nat.eq_zero_or_pos q with hq0 | hq0
    · subst hq0
      have hg0 : g = 0 := by omega
      subst hg0
      have y1 : nI 0 + (-1) < nI 0 := by decide
      have y2 : nI 0 ≤ 0 := by decide
      rw [if_pos y1, if_pos y2]
      exact ⟨⟨fun _ => True.intro, fun z => absurd y1 z⟩, ⟨fun _ => True.intro, fun z => absurd y2 z⟩, _, b, Bc, Bl, Ek, Er, Ea, Ce, Le, Gg, Ga, rfl, rfl, hV, hL, hE⟩
    · obtain ⟨p, rfl⟩ : ∃ p, q = p + 1 := ⟨q - 1, by omega⟩
      rw [dn p (by omega), dn1 p (by omega)]
      have z2 : ¬ nI (p + 1) ≤ 0 := fun z => by have := (nI_leI (b := 0) (by omega) (by omega)).mp z; omega
      have i1 : (nI p < nI g) ↔ p < g := nI_ltI (by omega) (by omega)
      have cp : (nI p).toNatClampNeg = p := clN (by omega)
      obtain ⟨e, t1, t2, t3, t4⟩ := hT p (by omega)
      have t5 : (Kd p = nI d) ↔ g ≤ p := by rw [t1, t4]; exact nI_eq (by omega) (by omega)
      have hvp : vp_in (nI p) 200 := vin (by omega) (by omega)
      by_cases hc : p < g
      · have y1 := i1.mpr hc
        have y2 : ¬ Kd p = nI d := fun z => by have := t5.mp z; omega
        have hgp : g = p + 1 := by omega
        rw [if_pos y1, if_neg z2, cp, if_neg y2, hgp]
        exact ⟨⟨fun _ => True.intro, fun z => absurd (by rw [← hgp]; exact y1) z⟩, ⟨fun z => absurd z z2, fun _ => ⟨hvp, fun z => absurd z y2, fun _ => True.intro⟩⟩, _, b, Bc, Bl, Ek, Er, Ea, Ce, Le, Gg, Ga, rfl, rfl, hV, hL, hE⟩
      · have y1 : ¬ nI p < nI g := fun z => hc (i1.mp z)
        have y2 : Kd p = nI d := t5.mpr (by omega)
        have y3 : ¬ nI p < 0 := nI_pos (by omega)
        have y4 : ¬ (200 : Int32) ≤ nI p := fun z => by have := (nI_leI (a := 200) (b := p) (by omega) (by omega)).mp z; omega
        obtain ⟨k, r, hk, hr, k1, k2, k3, k4, k5, k6⟩ := hP p (by omega)
        have w4 : f_X5_within (nI k).toInt64 0 4 = 1 := w1 (by rw [i3264, nI_toInt (by omega)]; have l0 : (0 : Int64).toInt = 0 := rfl; omega) (by rw [i3264, nI_toInt (by omega)]; have l0 : (4 : Int64).toInt = 4 := rfl; omega)
        have w31 : f_X5_within (nI r).toInt64 0 31 = 1 := w1 (by rw [i3264, nI_toInt (by omega)]; have l0 : (0 : Int64).toInt = 0 := rfl; omega) (by rw [i3264, nI_toInt (by omega)]; have l0 : (31 : Int64).toInt = 31 := rfl; omega)
        have hp0 : 32 * k + r < 160 := by omega
        have c0 : (nI (32 * k + r)).toNatClampNeg = 32 * k + r := clN (by omega)
        have cm : (nI (K - (p + 1))).toNatClampNeg = K - (p + 1) := clN (by omega)
        have hvm : vp_in (nI (K - (p + 1))) 200 := vin (by omega) (by omega)
        have hv0 : vp_in (nI (32 * k + r)) 160 := vin hp0 (by omega)
        have em : K - p = K - (p + 1) + 1 := by omega
        rw [if_neg y1, if_neg y3, if_neg y4, if_neg z2, cp, if_pos y2, k1, k2, k3, w4, w31, if_neg ne10, if_neg ne10, placeN, c0, cm, (hL _ hp0).1, ← nI_succ]
        by_cases h0 : Le (32 * k + r) = 0
        · obtain ⟨sa, ea⟩ := appN (m := K - (p + 1)) (by omega) (nI k) (nI r) 0 (Or.inl rfl) Ek Er Ea b
          obtain ⟨sz, ez⟩ := L_124z hp0 h0 (nI p) Kc Ce
          have hL' : RLv Bl (upd Le (32 * k + r) 0) := by
            intro q hq
            rw [uI]
            by_cases zq : q = 32 * k + r
            · rw [if_pos zq, zq, (hL _ hp0).1, h0]; exact ⟨rfl, by decide⟩
            · rw [if_neg zq]; exact hL q hq
          obtain ⟨s1, s2, s3⟩ := ih p (b + 0) Bc Bl (upd Ek (K - (p + 1)) (nI k)) (upd Er (K - (p + 1)) (nI r)) (upd Ea (K - (p + 1)) 0) Ce (upd Le (32 * k + r) 0) (upd Gg (K - (p + 1)) (nI (32 * k + r))) (upd Ga (K - (p + 1)) 0) (by omega) (by omega) (by omega) hV hL' (by rw [em]; exact RE_push hE hk hr 0)
          rw [em] at s1 s2 s3
          have ug : upd Ga (K - (p + 1)) 0 (K - (p + 1)) = 0 := by rw [uI, if_pos rfl]
          rw [if_pos h0, if_pos h0, ug]
          simp only [ez, ea]
          refine ⟨⟨fun z => absurd z y1, fun _ => ⟨fun z => absurd z y3, fun _ => ⟨fun z => absurd z y4, fun _ => ⟨hvp, hvp, fun z => absurd z ne10, fun _ => ⟨fun z => absurd z ne10, fun _ => ⟨hv0, fun _ => ⟨sa, fun u eu => ?_⟩, fun z => absurd h0 z⟩⟩⟩⟩⟩⟩,
            ⟨fun z => absurd z z2, fun _ => ⟨hvp, fun _ => ⟨hvp, hvm, hv0, fun _ => ⟨hvm, hvm, sz, fun u eu => ⟨hv0, hv0, ?_⟩⟩, fun z => absurd h0 z⟩, fun z => absurd y2 z⟩⟩, s3⟩
          · rw [eu]; exact s1
          · rw [eu, ez]; exact s2
        · obtain ⟨sa, ea⟩ := appN (m := K - (p + 1)) (by omega) (nI k) (nI r) 1 (Or.inr rfl) Ek Er Ea b
          obtain ⟨sz, ez⟩ := L_124 hp0 (p := p) (by omega) h0 Kc 22 0 Ce (by omega) (by omega)
          have sz : SL_X6_end_124 22 (0 : Int32) Ce (nI (32 * k + r)) Le (nI p) Kc := sz
          have ez : (L_X6_end_124 22 (0 : Int32) Ce (nI (32 * k + r)) Le (nI p) Kc).2 = fl Ce (21 * (32 * k + r)) (fun j => Kc (21 * p + j)) 0 := ez
          obtain ⟨sc, ec⟩ := cpyP hk hr (p := p) (by omega) Bc Pc
          have hV' := RV_put hV hk hr (Md := fun j => Pc (p * 21 + j)) (Va := fun j => Kc (21 * p + j)) (fun j hj => by rw [Nat.mul_comm p 21]; exact k6 j hj) k5
          have hL' := RL_upd hL (32 * k + r) (v := Kl p) (hQ p (by omega))
          obtain ⟨s1, s2, s3⟩ := ih p (b + 1) _ _ (upd Ek (K - (p + 1)) (nI k)) (upd Er (K - (p + 1)) (nI r)) (upd Ea (K - (p + 1)) 1) _ _ (upd Gg (K - (p + 1)) (nI (32 * k + r))) (upd Ga (K - (p + 1)) 1) (by omega) (by omega) (by omega) hV' hL' (by rw [em]; exact RE_push hE hk hr 1)
          rw [em] at s1 s2 s3
          have ug : upd Ga (K - (p + 1)) 1 (K - (p + 1)) = 1 := by rw [uI, if_pos rfl]
          rw [if_neg h0, if_neg h0, ug]
          simp only [ez, ea, ec, k4]
          refine ⟨⟨fun z => absurd z y1, fun _ => ⟨fun z => absurd z y3, fun _ => ⟨fun z => absurd z y4, fun _ => ⟨hvp, hvp, fun z => absurd z ne10, fun _ => ⟨fun z => absurd z ne10, fun _ => ⟨hv0, fun z => absurd z h0, fun _ => ⟨sc, fun u15 e15 => ⟨hvp, hv0, sa, fun u eu => ?_⟩⟩⟩⟩⟩⟩⟩⟩,
            ⟨fun z => absurd z z2, fun _ => ⟨hvp, fun _ => ⟨hvp, hvm, hv0, fun z => absurd z h0, fun _ => ⟨hvm, hvm, sz, fun u eu => ⟨hv0, hvp, hv0, ?_⟩⟩⟩, fun z => absurd y2 z⟩⟩, s3⟩
          · rw [eu, e15]; exact s1
          · rw [eu, ez]; exact s2

end
section
/-! end: the tokens, and the whole -/
theorem L_ct {T g : Nat} (hT : T ≤ 60) (hg : g ≤ T) (Gx : Nat → Int32) : ∀ (n x : Nat) (Ex : Nat → Int32), g ≤ x → x ≤ T → T - x < n → (∀ q, q < x - g → Ex q = Gx (g + q)) →
    SL_X1_copyTokens_5 n (nI x) Ex (nI (x - g)) Gx (nI T) ∧ ∃ (x' : Int32) (Ex' : Nat → Int32), L_X1_copyTokens_5 n (nI x) Ex (nI (x - g)) Gx (nI T) = (x', Ex', nI (T - g)) ∧ ∀ q, q < T - g → Ex' q = Gx (g + q) := by
  intro n
  induction n with
  | zero => intro x Ex _ _ h; exact absurd h (Nat.not_lt_zero _)
  | succ n ih =>
    intro x Ex hgx hx hn he
    rw [SL_X1_copyTokens_5, L_X1_copyTokens_5]
    have n1 : ¬ nI x < 0 := nI_pos (by omega)
    have i1 : (nI T ≤ nI x) ↔ T ≤ x := nI_leI (by omega) (by omega)
    have i2 : ((60 : Int32) ≤ nI x) ↔ 60 ≤ x := nI_leI (a := 60) (by omega) (by omega)
    by_cases hc : T ≤ x
    · have y := i1.mpr hc
      have e : x = T := by omega
      subst e
      rw [if_neg n1, if_pos y]
      exact ⟨⟨fun _ => True.intro, fun _ => ⟨fun _ => True.intro, fun z => absurd y z⟩⟩, _, Ex, rfl, he⟩
    · have y : ¬ nI T ≤ nI x := fun z => hc (i1.mp z)
      have y2 : ¬ (60 : Int32) ≤ nI x := fun z => by have := i2.mp z; omega
      have m1 : ¬ nI (x - g) < 0 := nI_pos (by omega)
      have m2 : ¬ (60 : Int32) ≤ nI (x - g) := fun z => by have := (nI_leI (a := 60) (b := x - g) (by omega) (by omega)).mp z; omega
      have c1 : (nI x).toNatClampNeg = x := clN (by omega)
      have c2 : (nI (x - g)).toNatClampNeg = x - g := clN (by omega)
      have em : x + 1 - g = x - g + 1 := by omega
      have sa : S_X1_appendToken (Gx x) Ex (nI (x - g)) := ⟨fun _ => True.intro, fun _ => ⟨fun _ => True.intro, fun _ => ⟨vin (by omega) (by omega), True.intro⟩⟩⟩
      have ea : f_X1_appendToken (Gx x) Ex (nI (x - g)) = (upd Ex (x - g) (Gx x), nI (x - g + 1)) := by
        unfold f_X1_appendToken
        rw [if_neg m1, if_neg m2, c2, ← nI_succ]
      obtain ⟨s1, s2⟩ := ih (x + 1) (upd Ex (x - g) (Gx x)) (by omega) (by omega) (by omega) (by
        intro q hq
        rw [uI]
        by_cases z : q = x - g
        · rw [if_pos z]; congr 1; omega
        · rw [if_neg z]; exact he q (by omega))
      rw [em] at s1 s2
      rw [if_neg n1, if_neg y, if_neg y2, c1, ← nI_succ]
      simp only [ea]
      refine ⟨⟨fun z => absurd z n1, fun _ => ⟨fun z => absurd z y, fun _ => ⟨fun z => absurd z y2, fun _ => ⟨vin (by omega) (by omega), sa, fun u eu => ?_⟩⟩⟩⟩, s2⟩
      rw [eu]; exact s1
theorem L_220 {T g d : Nat} (hT : T ≤ 60) (hg : g ≤ T) {Tt Td : Nat → Int32} (h : ∀ q, q < T → (Td q = nI d ↔ g ≤ q)) : ∀ (n x : Nat) (Bt : Nat → Int32), x ≤ T → T - x < n → (∀ q, q < x - g → Bt q = Tt (g + q)) →
    SL_X6_end_220 n (nI (min x g)) (nI x) (nI (x - g)) Bt (nI d) (nI T) Tt Td ∧ ∃ (x' : Int32) (Bt' : Nat → Int32), L_X6_end_220 n (nI (min x g)) (nI x) (nI (x - g)) Bt (nI d) (nI T) Tt Td = (nI g, x', nI (T - g), Bt') ∧ ∀ q, q < T - g → Bt' q = Tt (g + q) := by
  intro n
  induction n with
  | zero => intro x Bt _ h; exact absurd h (Nat.not_lt_zero _)
  | succ n ih =>
    intro x Bt hx hn he
    rw [SL_X6_end_220, L_X6_end_220]
    have i1 : (nI T ≤ nI x) ↔ T ≤ x := nI_leI (by omega) (by omega)
    by_cases hc : T ≤ x
    · have y := i1.mpr hc
      have e : x = T := by omega
      subst e
      rw [if_pos y, Nat.min_eq_right hg]
      exact ⟨⟨fun _ => True.intro, fun z => absurd y z⟩, _, Bt, rfl, he⟩
    · have y : ¬ nI T ≤ nI x := fun z => hc (i1.mp z)
      have c1 : (nI x).toNatClampNeg = x := clN (by omega)
      have c2 : (nI (x - g)).toNatClampNeg = x - g := clN (by omega)
      have hvx : vp_in (nI x) 60 := vin (by omega) (by omega)
      rw [if_neg y, c1, c2, ← nI_succ, ← nI_succ, ← nI_succ]
      by_cases hq : Td x = nI d
      · have hgx := (h x (by omega)).mp hq
        have em : x + 1 - g = x - g + 1 := by omega
        have en : min (x + 1) g = min x g := by omega
        obtain ⟨s1, s2⟩ := ih (x + 1) (upd Bt (x - g) (Tt x)) (by omega) (by omega) (by
          intro q hq
          rw [uI]
          by_cases z : q = x - g
          · rw [if_pos z]; congr 1; omega
          · rw [if_neg z]; exact he q (by omega))
        rw [em, en] at s1 s2
        rw [if_pos hq]
        exact ⟨⟨fun z => absurd z y, fun _ => ⟨hvx, fun _ => ⟨hvx, vin (by omega) (by omega), s1⟩, fun z => absurd hq z⟩⟩, s2⟩
      · have hgx : ¬ g ≤ x := fun z => hq ((h x (by omega)).mpr z)
        have em : x + 1 - g = x - g := by omega
        have en : min (x + 1) g = min x g + 1 := by omega
        obtain ⟨s1, s2⟩ := ih (x + 1) Bt (by omega) (by omega) (fun q hq => he q (by omega))
        rw [em, en] at s1 s2
        rw [if_neg hq]
        exact ⟨⟨fun z => absurd z y, fun _ => ⟨hvx, fun z => absurd z hq, fun _ => s1⟩⟩, s2⟩
theorem RP_le {K g : Nat} {Pk Pr Pl : Nat → Int32} {Pc : Nat → Int64} {Ko Kl : Nat → Int32} {Kc : Nat → Int64} (h : RP K Pk Pr Pl Pc Ko Kl Kc) (hg : g ≤ K) : RP g Pk Pr Pl Pc Ko Kl Kc := fun q hq => h q (by omega)
theorem r_end {d K T G B : Nat} {Bc Ce : Nat → Int64} {Bl Le Pk Pr Pl Ko Kl Kd Gf Gt Gx Tt Td Ek Er Ea Gg Ga Ex Bt : Nat → Int32} {Pc Kc : Nat → Int64} (hd : d ≤ 20) (hK : K ≤ 200) (hT : T ≤ 60) (hG : G ≤ 200) (hB : B ≤ 60)
    (hV : RV Bc Ce) (hL : RLv Bl Le) (hP : RP K Pk Pr Pl Pc Ko Kl Kc) (hQ : RKv K Kl) (hD : RD d K Gf Kd) (hW : RD d T Gt Td) (hX : ∀ q, q < T → Gx q = Tt q) (hE : RE G Ek Er Ea Gg Ga) (hY : ∀ q, q < B → Ex q = Bt q) (Eb Th : Int32) :
    S_X5_end Bc Bl Pk Pr Pl Pc (nI K) Gf Gt Gx (nI d) (nI T) Ek Er Ea Ex (nI G) Eb (nI B) ∧ S_X6_end Th Ce Le (nI d) (nI K) Kc Ko Kl Kd (nI T) Tt Td (nI G) Gg Ga (nI B) Bt ∧
    ∃ (o : Nat) (y y' th : Int32) (Bc' : Nat → Int64) (Bl' : Nat → Int32) (K' d' T' : Nat) (Ek' Er' Ea' Ex' : Nat → Int32) (G' : Nat) (Eb' : Int32) (B' : Nat) (Ce' : Nat → Int64) (Le' Gg' Ga' Bt' : Nat → Int32),
      f_X5_end Bc Bl Pk Pr Pl Pc (nI K) Gf Gt Gx (nI d) (nI T) Ek Er Ea Ex (nI G) Eb (nI B) = (o, y, Bc', Bl', nI K', nI d', nI T', Ek', Er', Ea', Ex', nI G', Eb', nI B') ∧
      f_X6_end Th Ce Le (nI d) (nI K) Kc Ko Kl Kd (nI T) Tt Td (nI G) Gg Ga (nI B) Bt = (y', th, Ce', Le', nI d', nI K', nI T', nI G', Gg', Ga', nI B', Bt') ∧
      (o = 0 ∨ o = 4) ∧ th = k_L_end o ∧ (o = 0 → y = y') ∧ (d' ≤ 20 ∧ K' ≤ 200 ∧ T' ≤ 60 ∧ G' ≤ 200 ∧ B' ≤ 60) ∧ RV Bc' Ce' ∧ RLv Bl' Le' ∧ RP K' Pk Pr Pl Pc Ko Kl Kc ∧ RKv K' Kl ∧ RD d' K' Gf Kd ∧ RD d' T' Gt Td ∧ (∀ q, q < T' → Gx q = Tt q) ∧ RE G' Ek' Er' Ea' Gg' Ga' ∧ (∀ q, q < B' → Ex' q = Bt' q) := by
  have i4 : (0 < nI d) ↔ 0 < d := nI_ltI (a := 0) (by omega) (by omega)
  have i5 : (nI d = 0) ↔ d = 0 := nI_eq (b := 0) (by omega) (by omega)
  by_cases hd0 : d = 0
  · have n4 : ¬ 0 < nI d := fun z => by have := i4.mp z; omega
    have n5 := i5.mpr hd0
    unfold S_X5_end S_X6_end f_X5_end f_X6_end
    rw [if_neg n4, if_pos n5]
    exact ⟨⟨fun z => absurd z n4, fun _ => True.intro⟩, ⟨fun _ => True.intro, fun z => absurd n5 z⟩, 4, 0, 0, 1, Bc, Bl, K, d, T, Ek, Er, Ea, Ex, G, Eb, B, Ce, Le, Gg, Ga, Bt, rfl, rfl, Or.inr rfl, rfl, fun z => absurd z (by decide), ⟨hd, hK, hT, hG, hB⟩, hV, hL, hP, hQ, hD, hW, hX, hE, hY⟩
  · have n4 : 0 < nI d := i4.mpr (by omega)
    have n5 : ¬ nI d = 0 := fun z => hd0 (i5.mp z)
    have n6 : ¬ nI d ≤ 0 := fun z => by have := (nI_leI (b := 0) (by omega) (by omega)).mp z; omega
    have n7 : ¬ (20 : Int32) < nI d := fun z => by have := (nI_ltI (a := 20) (by omega) (by omega)).mp z; omega
    have c3 : nI d - 1 = nI (d - 1) := pk_sub (b := 1) (by omega)
    have c4 : (nI (d - 1)).toNatClampNeg = d - 1 := clN (by omega)
    have hv1 : vp_in (nI (d - 1)) 20 := vin (by omega) (by omega)
    obtain ⟨g, g1, g2, g3⟩ := RD_first hD (by omega)
    obtain ⟨gt, t1, t2, t3⟩ := RD_first hW (by omega)
    have ek : f_X2_firstKept Gf (nI d) = nI g := by unfold f_X2_firstKept; rw [if_neg n6, if_neg n7, c3, c4, g2]
    have et : f_X2_firstToken Gt (nI d) = nI gt := by unfold f_X2_firstToken; rw [if_neg n6, if_neg n7, c3, c4, t2]
    have sk : S_X2_firstKept Gf (nI d) := ⟨fun _ => True.intro, fun _ => ⟨fun _ => True.intro, fun _ => ⟨by rw [c3]; exact hv1, True.intro⟩⟩⟩
    have st : S_X2_firstToken Gt (nI d) := ⟨fun _ => True.intro, fun _ => ⟨fun _ => True.intro, fun _ => ⟨by rw [c3]; exact hv1, True.intro⟩⟩⟩
    have hE0 : RE (K - K) Ek Er Ea Gg Ga := fun q hq => absurd hq (by omega)
    obtain ⟨p1, p2, x', b', Bc', Bl', Ek', Er', Ea', Ce', Le', Gg', Ga', p3, p4, p5, p6, p7⟩ := L_end32 (g := g) hK (by omega) hd hP hQ g3 201 K 0 Bc Bl Ek Er Ea Ce Le Gg Ga g1 (Nat.le_refl _) (by omega) hV hL hE0
    rw [Nat.sub_self] at p1 p2 p3 p4
    have em : nI K + (-1) = nI K - 1 := (Int32.sub_eq_add_neg _ _).symm
    rw [em] at p1 p3
    obtain ⟨q1, x2, Ex', q2, q3⟩ := L_ct hT t1 Gx 61 gt Ex (Nat.le_refl _) t1 (by omega) (fun q hq => absurd hq (by omega))
    rw [Nat.sub_self] at q1 q2
    have hTd : ∀ q, q < T → (Td q = nI d ↔ gt ≤ q) := by
      intro q hq
      obtain ⟨e, k1, k2, k3, k4⟩ := t3 q hq
      rw [k1, k4]
      exact nI_eq (by omega) (by omega)
    obtain ⟨r1, x3, Bt', r2, r3⟩ := L_220 hT t1 hTd (Tt := Tt) 61 0 Bt (by omega) (by omega) (fun q hq => absurd hq (by omega))
    rw [Nat.zero_min, Nat.zero_sub] at r1 r2
    have p1 : SL_X5_giveBackKept_10 201 (nI K - 1) Bc Bl Ek Er Ea 0 0 (nI g) Pk Pr Pl Pc := p1
    have p3 : L_X5_giveBackKept_10 201 (nI K - 1) Bc Bl Ek Er Ea 0 0 (nI g) Pk Pr Pl Pc = _ := p3
    have p2 : SL_X6_end_32 201 0 Ce Le (nI K) 0 Gg Ga (nI d) Kc Ko Kl Kd := p2
    have p4 : L_X6_end_32 201 0 Ce Le (nI K) 0 Gg Ga (nI d) Kc Ko Kl Kd = _ := p4
    have q1 : SL_X1_copyTokens_5 61 (nI gt) Ex 0 Gx (nI T) := q1
    have q2 : L_X1_copyTokens_5 61 (nI gt) Ex 0 Gx (nI T) = _ := q2
    have r1 : SL_X6_end_220 61 0 0 0 Bt (nI d) (nI T) Tt Td := r1
    have r2 : L_X6_end_220 61 0 0 0 Bt (nI d) (nI T) Tt Td = _ := r2
    have eg : f_X5_giveBackKept (nI g) Bc Bl Pk Pr Pl Pc (nI K) Ek Er Ea 0 0 = (Bc', Bl', nI g, Ek', Er', Ea', nI (K - g), b') := by
      unfold f_X5_giveBackKept
      simp only [p3]
    have sg : S_X5_giveBackKept (nI g) Bc Bl Pk Pr Pl Pc (nI K) Ek Er Ea 0 0 := ⟨p1, fun _ _ => True.intro⟩
    have ec : f_X1_copyTokens Gt Gx (nI d) (nI T) Ex 0 = (Ex', nI (T - gt)) := by
      unfold f_X1_copyTokens
      simp only [et, q2]
    have sc : S_X1_copyTokens Gt Gx (nI d) (nI T) Ex 0 := ⟨st, fun u2 e2 => by rw [e2, et]; exact ⟨q1, fun _ _ => True.intro⟩⟩
    have el : f_X2_close Gt (nI d) (nI T) = (nI (d - 1), nI gt) := by
      unfold f_X2_close
      simp only [et, n6, if_false, c3]
    have sl : S_X2_close Gt (nI d) (nI T) := ⟨fun _ => True.intro, fun _ => ⟨st, fun _ _ => True.intro⟩⟩
    unfold S_X5_end S_X6_end f_X5_end f_X6_end
    refine ⟨⟨fun _ u2 e2 => ⟨sk, fun u4 e4 => ?_⟩, fun _ => True.intro⟩, ⟨fun _ => True.intro, fun _ => ⟨p2, fun _ _ => ⟨r1, fun _ _ => True.intro⟩⟩⟩, ?_⟩
    · rw [e4, ek, e2]
      exact ⟨sg, fun u6 e6 => ⟨sc, fun u8 e8 => ⟨sl, fun _ _ => True.intro⟩⟩⟩
    · rw [if_pos n4, if_neg n5]
      simp only [f_X1_clear, ek, eg, ec, el, p4, r2, c3]
      refine ⟨0, b', b', 0, Bc', Bl', g, d - 1, gt, Ek', Er', Ea', Ex', K - g, b', T - gt, Ce', Le', Gg', Ga', Bt', rfl, rfl, Or.inl rfl, rfl, fun _ => rfl, ⟨by omega, by omega, by omega, by omega, by omega⟩, p5, p6, RP_le hP g1, fun q hq => hQ q (by omega), RD_pop hD (by omega) (by omega) g2 g1, RD_pop hW (by omega) (by omega) t2 t1, fun q hq => hX q (by omega), p7, fun q hq => ?_⟩
      rw [q3 q hq, r3 q hq]
      exact hX _ (by omega)

end
section
/-! the relation of two new objects -/
def Rel2 (d K T G B : Nat) (Bc : Nat → Int64) (Bl Pk Pr Pl : Nat → Int32) (Pc : Nat → Int64) (Gf Gt Gx Ek Er Ea Ex : Nat → Int32) (Wg Wr : Nat → Int64)
    (Ce : Nat → Int64) (Le : Nat → Int32) (Kc : Nat → Int64) (Ko Kl Kd : Nat → Int32) (Ug Ur : Nat → Int64) (Tt Td Gg Ga Bt : Nat → Int32) : Prop :=
  (d ≤ 20 ∧ K ≤ 200 ∧ T ≤ 60 ∧ G ≤ 200 ∧ B ≤ 60) ∧ RV Bc Ce ∧ RLv Bl Le ∧ RP K Pk Pr Pl Pc Ko Kl Kc ∧ RKv K Kl ∧ RD d K Gf Kd ∧ RD d T Gt Td ∧ (∀ q, q < T → Gx q = Tt q) ∧ RE G Ek Er Ea Gg Ga ∧ (∀ q, q < B → Ex q = Bt q) ∧ (okV 2 Ug ∧ ∀ j, j < 5 → Wg j = Ug j) ∧ (okV 3 Ur ∧ ∀ j, j < 21 → Wr j = Ur j)
theorem init0 : ∀ (n x : Nat) (f : Nat → Int64), x ≤ 32 → 32 - x < n → ∀ i, L_X0_init n (nI x) f i = if 896 + x ≤ i ∧ i < 928 then -1 else f i := by
  intro n
  induction n with
  | zero => intro x f _ h; exact absurd h (Nat.not_lt_zero _)
  | succ n ih =>
    intro x f hx hn i
    rw [L_X0_init]
    by_cases hc : 32 ≤ x
    · have y : (32 : Int32) ≤ nI x := (nI_leI (a := 32) (by omega) (by omega)).mpr hc
      rw [if_pos y, if_neg (by omega)]
    · have y : ¬ (32 : Int32) ≤ nI x := fun z => hc ((nI_leI (a := 32) (by omega) (by omega)).mp z)
      rw [if_neg y, home4, clN (n := 896 + x * 1) (by omega), ← nI_succ, ih (x + 1) _ (by omega) (by omega)]
      simp only [uL]
      by_cases h1 : i = 896 + x
      · rw [if_neg (by omega), if_pos (by omega), if_pos (by omega)]
      · by_cases h2 : 896 + x ≤ i ∧ i < 928
        · rw [if_pos (by omega), if_pos h2]
        · rw [if_neg (by omega), if_neg (by omega), if_neg h2]
theorem init6 : ∀ (n x : Nat) (f : Nat → Int64), x ≤ 32 → 32 - x < n → (∀ r, x ≤ r → r < 32 → L_X6_init n (nI x) f (21 * (128 + r)) = -1) ∧ ∀ i, (∀ r, x ≤ r → r < 32 → i ≠ 21 * (128 + r)) → L_X6_init n (nI x) f i = f i := by
  intro n
  induction n with
  | zero => intro x f _ h; exact absurd h (Nat.not_lt_zero _)
  | succ n ih =>
    intro x f hx hn
    rw [L_X6_init]
    by_cases hc : 32 ≤ x
    · have y : (32 : Int32) ≤ nI x := (nI_leI (a := 32) (by omega) (by omega)).mpr hc
      rw [if_pos y]
      exact ⟨fun r h1 h2 => absurd h2 (by omega), fun _ _ => rfl⟩
    · have y : ¬ (32 : Int32) ≤ nI x := fun z => hc ((nI_leI (a := 32) (by omega) (by omega)).mp z)
      rw [if_neg y, show (21 : Int32) * ((128 : Int32) + nI x) = nI (21 * (128 + x)) from sixN 128 x, clN (n := 21 * (128 + x)) (by omega), ← nI_succ]
      obtain ⟨h1, h2⟩ := ih (x + 1) (vp_updL f (21 * (128 + x)) (-1)) (by omega) (by omega)
      refine ⟨fun r hr hr2 => ?_, fun i hi => ?_⟩
      · by_cases z : r = x
        · rw [z, h2 _ (fun r' z1 z2 => by omega), uL, if_pos rfl]
        · exact h1 r (by omega) hr2
      · rw [h2 i (fun r' z1 z2 => hi r' (by omega) z2), uL, if_neg (hi x (Nat.le_refl _) (by omega))]
theorem RV0 : RV (L_X0_init 33 0 (fun _ => 0)) (L_X6_init 33 0 (fun _ => 0)) := by
  have a1 := init0 33 0 (fun _ => 0) (by omega) (by omega)
  obtain ⟨a2, a3⟩ := init6 33 0 (fun _ => 0) (by omega) (by omega)
  have a1 : ∀ i, L_X0_init 33 0 (fun _ => 0) i = if 896 + 0 ≤ i ∧ i < 928 then -1 else (0 : Int64) := a1
  have a2 : ∀ r, 0 ≤ r → r < 32 → L_X6_init 33 0 (fun _ => 0) (21 * (128 + r)) = -1 := a2
  have a3 : ∀ i, (∀ r, 0 ≤ r → r < 32 → i ≠ 21 * (128 + r)) → L_X6_init 33 0 (fun _ => 0) i = (0 : Int64) := a3
  intro k r hk hr
  have hw := wd_le hk
  by_cases h4 : k = 4
  · subst h4
    have e6 : L_X6_init 33 0 (fun _ => 0) (21 * (32 * 4 + r) + 0) = -1 := a2 r (by omega) hr
    refine ⟨⟨fun z => absurd z (by decide), fun z => absurd z (by decide), fun z => absurd z (by decide), fun z => absurd z (by decide), fun _ => ?_⟩, fun j hj => ?_⟩
    · show -1 ≤ (L_X6_init 33 0 (fun _ => 0) (21 * (32 * 4 + r) + 0)).toInt ∧ (L_X6_init 33 0 (fun _ => 0) (21 * (32 * 4 + r) + 0)).toInt ≤ 999
      rw [e6]; decide
    · have hj : j < 1 := hj
      have j0 : j = 0 := by omega
      subst j0
      have hh : hm 4 = 896 := rfl
      have hwd : wd 4 = 1 := rfl
      rw [e6, a1, if_pos (by rw [hh, hwd]; omega)]
  · have e6 : ∀ j, j < 21 → L_X6_init 33 0 (fun _ => 0) (21 * (32 * k + r) + j) = 0 := fun j hj => a3 _ (fun r' _ _ => by omega)
    have e5 : ∀ j, j < wd k → L_X0_init 33 0 (fun _ => 0) (hm k + r * wd k + j) = 0 := by
      intro j hj
      rw [a1, if_neg]
      rcases (show k = 0 ∨ k = 1 ∨ k = 2 ∨ k = 3 by omega) with rfl | rfl | rfl | rfl <;> simp only [hm, wd, List.getD_cons_zero, List.getD_cons_succ] at * <;> omega
    refine ⟨⟨fun _ => ?_, fun _ => ?_, fun _ => ?_, fun _ => ⟨0, by omega, e6 0 (by omega)⟩, fun z => absurd z h4⟩, fun j hj => by rw [e5 j hj, e6 j (by omega)]⟩
    · simp only [e6 0 (by omega)]; decide
    · simp only [e6 0 (by omega)]; decide
    · simp only [e6 0 (by omega), e6 1 (by omega), e6 2 (by omega), e6 3 (by omega), e6 4 (by omega)]; decide
theorem ok0 (k : Nat) : okV k (fun _ => 0) := ⟨fun _ => by decide, fun _ => by decide, fun _ => by decide, fun _ => ⟨0, by omega, rfl⟩, fun _ => by decide⟩
theorem rel0 : Rel2 0 0 0 0 0 (L_X0_init 33 0 (fun _ => 0)) (fun _ => 0) (fun _ => 0) (fun _ => 0) (fun _ => 0) (fun _ => 0) (fun _ => 0) (fun _ => 0) (fun _ => 0) (fun _ => 0) (fun _ => 0) (fun _ => 0) (fun _ => 0) (fun _ => 0) (fun _ => 0)
    (L_X6_init 33 0 (fun _ => 0)) (fun _ => 0) (fun _ => 0) (fun _ => 0) (fun _ => 0) (fun _ => 0) (fun _ => 0) (fun _ => 0) (fun _ => 0) (fun _ => 0) (fun _ => 0) (fun _ => 0) (fun _ => 0) := by
  have d0 : ∀ (f g : Nat → Int32), RD 0 0 f g := fun f g => ⟨fun _ => 0, fun _ => 0, fun q hq => absurd hq (by omega), fun i hi => absurd hi (by omega)⟩
  exact ⟨⟨by omega, by omega, by omega, by omega, by omega⟩, RV0, fun q _ => ⟨rfl, Int.le_refl 0⟩, fun q hq => absurd hq (by omega), fun q hq => absurd hq (by omega), d0 _ _, d0 _ _, fun q hq => absurd hq (by omega), fun q hq => absurd hq (by omega), fun q hq => absurd hq (by omega), ⟨ok0 2, fun _ _ => rfl⟩, ⟨ok0 3, fun _ _ => rfl⟩⟩

end
