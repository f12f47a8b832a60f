/-! THE RELATION of the class's cells to the reference's -/
/-- what a value of a KIND may be -/
def okV (k : Nat) (v : Nat → Int64) : Prop :=
  (k = 0 → -2147483647 ≤ (v 0).toInt ∧ (v 0).toInt ≤ 2147483647) ∧
  (k = 1 → -1073741823 ≤ (v 0).toInt ∧ (v 0).toInt ≤ 1073741823) ∧
  (k = 2 → (-1073741823 ≤ (v 0).toInt ∧ (v 0).toInt ≤ 1073741823) ∧ (-1073741823 ≤ (v 1).toInt ∧ (v 1).toInt ≤ 1073741823) ∧ (-1073741823 ≤ (v 3).toInt ∧ (v 3).toInt ≤ 1073741823) ∧ (0 ≤ (v 2).toInt ∧ (v 2).toInt ≤ 3) ∧ (0 ≤ (v 4).toInt ∧ (v 4).toInt ≤ 3)) ∧
  (k = 3 → ∃ n, n ≤ 20 ∧ v 0 = lN n) ∧
  (k = 4 → -1 ≤ (v 0).toInt ∧ (v 0).toInt ≤ 999)
theorem okV.cong {k : Nat} {v w : Nat → Int64} (h : okV k v) (hk : k < 5) (e : ∀ j, j < wd k → w j = v j) : okV k w := by
  obtain ⟨h0, h1, h2, h3, h4⟩ := h
  refine ⟨fun z => ?_, fun z => ?_, fun z => ?_, fun z => ?_, fun z => ?_⟩ <;> subst z
  · rw [e 0 (by decide)]; exact h0 rfl
  · rw [e 0 (by decide)]; exact h1 rfl
  · rw [e 0 (by decide), e 1 (by decide), e 2 (by decide), e 3 (by decide), e 4 (by decide)]; exact h2 rfl
  · rw [e 0 (by decide)]; exact h3 rfl
  · rw [e 0 (by decide)]; exact h4 rfl
def RV (Bc Ce : Nat → Int64) : Prop := ∀ k r, k < 5 → r < 32 → okV k (fun j => Ce (21 * (32 * k + r) + j)) ∧ ∀ j, j < wd k → Bc (hm k + r * wd k + j) = Ce (21 * (32 * k + r) + j)
def RP (K : Nat) (Pk Pr Pl : Nat → Int32) (Pc : Nat → Int64) (Ko Kl : Nat → Int32) (Kc : Nat → Int64) : Prop := ∀ q, q < K → ∃ k r, k < 5 ∧ r < 32 ∧ Pk q = nI k ∧ Pr q = nI r ∧ Ko q = nI (32 * k + r) ∧ Pl q = Kl q ∧ okV k (fun j => Kc (21 * q + j)) ∧ ∀ j, j < wd k → Pc (21 * q + j) = Kc (21 * q + j)
/-- groups over a row of n things, each told at a depth: by first places, or by depths -/
def RD (d n : Nat) (Gf Kd : Nat → Int32) : Prop := ∃ gf dp : Nat → Nat, (∀ q, q < n → Kd q = nI (dp q) ∧ 1 ≤ dp q ∧ dp q ≤ d) ∧ ∀ i, i < d → Gf i = nI (gf i) ∧ gf i ≤ n ∧ ∀ q, q < n → (gf i ≤ q ↔ i + 1 ≤ dp q)
def RE (G : Nat) (Ek Er Ea Gg Ga : Nat → Int32) : Prop := ∀ q, q < G → ∃ k r, k < 5 ∧ r < 32 ∧ Ek q = nI k ∧ Er q = nI r ∧ Gg q = nI (32 * k + r) ∧ Ea q = Ga q
def Rel (d K T G B : Nat) (Bc : Nat → Int64) (Bl Pk Pr Pl : Nat → Int32) (Pc : Nat → Int64) (Gf Gt Gx Ek Er Ea Ex : Nat → Int32) (Wg Wr : Nat → Int64)
    (Ce : Nat → Int64) (Le : Nat → Int32) (Kc : Nat → Int64) (Ko Kl Kd : Nat → Int32) (Ug Ur : Nat → Int64) (Tt Td Gg Ga Bt : Nat → Int32) : Prop :=
  (d ≤ 20 ∧ K ≤ 200 ∧ T ≤ 60 ∧ G ≤ 200 ∧ B ≤ 60) ∧ (∀ q, q < 160 → Bl q = Le q) ∧ RV Bc Ce ∧ RP K Pk Pr Pl Pc Ko Kl Kc ∧ RD d K Gf Kd ∧ RD d T Gt Td ∧ (∀ q, q < T → Gx q = Tt q) ∧ RE G Ek Er Ea Gg Ga ∧ (∀ q, q < B → Ex q = Bt q) ∧ (okV 2 Ug ∧ ∀ j, j < 5 → Wg j = Ug j) ∧ (okV 3 Ur ∧ ∀ j, j < 21 → Wr j = Ur j)
theorem cl0 : (0 : Int32).toNatClampNeg = 0 := rfl
theorem cl1 : (1 : Int32).toNatClampNeg = 1 := rfl
theorem cl2 : (2 : Int32).toNatClampNeg = 2 := rfl
theorem cl3 : (3 : Int32).toNatClampNeg = 3 := rfl
theorem cl4 : (4 : Int32).toNatClampNeg = 4 := rfl
theorem l0 : (0 : Int64).toInt = 0 := rfl
theorem uL (f : Nat → Int64) (k j : Nat) (x : Int64) : vp_updL f k x j = if j = k then x else f j := rfl
theorem uI (f : Nat → Int32) (k j : Nat) (x : Int32) : upd f k x j = if j = k then x else f j := rfl
/-! glue: it depends on its arguments alone -/
theorem isLen (v : Int64) : (f_X5_isLength v = 1 ∧ -1073741823 ≤ v.toInt ∧ v.toInt ≤ 1073741823) ∨ (f_X5_isLength v = 0 ∧ ¬ (-1073741823 ≤ v.toInt ∧ v.toInt ≤ 1073741823)) := win v (-1073741823) 1073741823
theorem r_glue {Wg Ug : Nat → Int64} (h : okV 2 Ug ∧ ∀ j, j < 5 → Wg j = Ug j) (a0 a1 : Int64) (a2 : Int32) (a3 : Int64) (a4 : Int32) (Th : Int32) :
    S_X5_glue a0 a1 a2 a3 a4 Wg ∧ S_X6_glue a0 a1 a2 a3 a4 Th Ug ∧ ∃ (o : Nat) (th : Int32) (Wg' Ug' : Nat → Int64), f_X5_glue a0 a1 a2 a3 a4 Wg = (o, Wg') ∧ f_X6_glue a0 a1 a2 a3 a4 Th Ug = (th, Ug') ∧ (o = 0 ∨ o = 1) ∧ th = k_L_glue o ∧ (okV 2 Ug' ∧ ∀ j, j < 5 → Wg' j = Ug' j) := by
  have v5 : ∀ n : Nat, n < 5 → vp_in (nI n) 5 := fun n hn => vin hn (by omega)
  refine ⟨⟨fun _ => True.intro, fun _ => ⟨fun _ => True.intro, fun _ => ⟨fun _ => True.intro, fun _ => ⟨fun _ => True.intro, fun _ => ⟨fun _ => True.intro, fun _ => ⟨v5 0 (by omega), v5 1 (by omega), v5 2 (by omega), v5 3 (by omega), v5 4 (by omega), True.intro⟩⟩⟩⟩⟩⟩, ⟨fun _ => True.intro, fun _ => ⟨fun _ => True.intro, fun _ => ⟨fun _ => True.intro, fun _ => ⟨fun _ => True.intro, fun _ => ⟨fun _ => True.intro, fun _ => ⟨v5 0 (by omega), v5 1 (by omega), v5 2 (by omega), v5 3 (by omega), v5 4 (by omega), True.intro⟩⟩⟩⟩⟩⟩, ?_⟩
  unfold f_X5_glue f_X6_glue
  rw [len_eq, in_eq]
  have bad : ∀ (x : Nat × (Nat → Int64)) (y : Int32 × (Nat → Int64)), x = (1, Wg) → y = (1, Ug) → ∃ (o : Nat) (th : Int32) (Wg' Ug' : Nat → Int64), x = (o, Wg') ∧ y = (th, Ug') ∧ (o = 0 ∨ o = 1) ∧ th = k_L_glue o ∧ (okV 2 Ug' ∧ ∀ j, j < 5 → Wg' j = Ug' j) := fun x y hx hy => ⟨1, 1, Wg, Ug, hx, hy, Or.inr rfl, rfl, h⟩
  rcases isLen a0 with ⟨e0, b0⟩ | ⟨e0, b0⟩
  · rcases isLen a1 with ⟨e1, b1⟩ | ⟨e1, b1⟩
    · rcases win a2.toInt64 0 3 with ⟨e2, b2⟩ | ⟨e2, b2⟩
      · rcases isLen a3 with ⟨e3, b3⟩ | ⟨e3, b3⟩
        · rcases win a4.toInt64 0 3 with ⟨e4, b4⟩ | ⟨e4, b4⟩
          · refine ⟨0, 0, _, _, by simp only [e0, e1, e2, e3, e4, ne10, if_false]; rfl, by simp only [e0, e1, e2, e3, e4, ne10, if_false]; rfl, Or.inl rfl, rfl, ⟨?_, ?_⟩⟩
            · refine ⟨fun z => absurd z (by decide), fun z => absurd z (by decide), fun _ => ?_, fun z => absurd z (by decide), fun z => absurd z (by decide)⟩
              exact ⟨b0, b1, b3, b2, b4⟩
            · intro j hj
              have h5 := h.2 j hj
              simp only [uL, cl0, cl1, cl2, cl3, cl4]
              split <;> first | rfl | (split <;> first | rfl | (split <;> first | rfl | (split <;> first | rfl | (split <;> first | rfl | exact h5))))
          · exact bad _ _ (by simp only [e0, e1, e2, e3, e4, ne10, if_false, if_true]) (by simp only [e0, e1, e2, e3, e4, ne10, if_false, if_true])
        · exact bad _ _ (by simp only [e0, e1, e2, e3, ne10, if_false, if_true]) (by simp only [e0, e1, e2, e3, ne10, if_false, if_true])
      · exact bad _ _ (by simp only [e0, e1, e2, ne10, if_false, if_true, ite_self]) (by simp only [e0, e1, e2, ne10, if_false, if_true])
    · exact bad _ _ (by simp only [e0, e1, ne10, if_false, if_true]) (by simp only [e0, e1, ne10, if_false, if_true])
  · exact bad _ _ (by simp only [e0, if_true]) (by simp only [e0, if_true])
/-! token -/
theorem lNlt {a b : Nat} (ha : a < 2147483648) (hb : b < 2147483648) : lN a = lN b ↔ a = b := lN_eq (by omega) (by omega)
theorem r_token {Wr Ur : Nat → Int64} (h : okV 3 Ur ∧ ∀ j, j < 21 → Wr j = Ur j) (a0 : Int32) (Th : Int32) :
    S_X5_token a0 Wr ∧ S_X6_token a0 Th Ur ∧ ∃ (o : Nat) (r r' th : Int32) (Wr' Ur' : Nat → Int64), f_X5_token a0 Wr = (o, r, Wr') ∧ f_X6_token a0 Th Ur = (r', th, Ur') ∧ (o = 0 ∨ o = 1) ∧ th = k_L_token o ∧ (o = 0 → r = r') ∧ (okV 3 Ur' ∧ ∀ j, j < 21 → Wr' j = Ur' j) := by
  obtain ⟨n, hn, hu⟩ := h.1.2.2.2.1 rfl
  have hw : Wr 0 = lN n := (h.2 0 (by omega)).trans hu
  have e1 : (lN n).toInt32 = nI n := lN_i n
  have e2 : ¬ nI n < 0 := nI_pos (by omega)
  have e3 : lN n + 1 = lN (n + 1) := lN_1 n
  have e4 : (lN (n + 1)).toInt32 = nI (n + 1) := lN_i _
  have e5 : (nI (n + 1)).toNatClampNeg = n + 1 := clN (by omega)
  have e6 : nI n + 1 = nI (n + 1) := (nI_succ n).symm
  have e7 : (nI (n + 1)).toInt64 = lN (n + 1) := nI_l (by omega)
  have i1 : (nI n < 20) ↔ n < 20 := nI_ltI (b := 20) (by omega) (by omega)
  have i2 : (lN n = 20) ↔ n = 20 := lN_eq (b := 20) (by omega) (by omega)
  have hv0 : vp_in (0 : Int32) 21 := vin (n := 0) (by omega) (by omega)
  refine ⟨?_, ?_, ?_⟩
  · intro u1 _ _
    refine ⟨hv0, fun _ => True.intro, fun _ => ⟨fun hc => ?_, fun _ => True.intro⟩⟩
    rw [cl0, hw, e1, i1] at hc
    rw [cl0, hw, e1, e6]
    exact ⟨vin (by omega) (by omega), hv0, True.intro⟩
  · refine ⟨fun _ => True.intro, fun _ => ⟨hv0, fun _ => True.intro, fun hc => ?_⟩⟩
    rw [cl0, hu, i2] at hc
    refine ⟨hv0, hv0, hv0, ?_, hv0, True.intro⟩
    rw [cl0, hu]
    simp only [uL, if_true, e3, e4]
    exact vin (by omega) (by omega)
  · unfold f_X5_token f_X6_token f_X5_checkToken
    rw [in_eq]
    simp only [cl0, hw, hu, e1, e3, uL, if_true, e4, e5, e6, e7]
    rcases win a0.toInt64 0 255 with ⟨e8, b8⟩ | ⟨e8, b8⟩
    · simp only [e8, ne10, if_false, if_true, e2]
      by_cases hc : n = 20
      · subst hc
        refine ⟨0, -1, -1, 0, Wr, Ur, ?_, ?_, Or.inl rfl, rfl, fun _ => rfl, h⟩
        · rw [if_neg (fun z => by have := i1.mp z; omega)]
        · rw [if_pos (i2.mpr rfl)]
      · rw [if_pos (i1.mpr (by omega)), if_neg (fun z => hc (i2.mp z))]
        refine ⟨0, nI (n + 1), nI (n + 1), 0, vp_updL (vp_updL Wr (n + 1) a0.toInt64) 0 (lN (n + 1)), vp_updL (vp_updL Ur 0 (lN (n + 1))) (n + 1) a0.toInt64, rfl, ?_, Or.inl rfl, rfl, fun _ => rfl, ?_, ?_⟩
        · rw [if_neg (by omega), e4]
        · refine ⟨fun z => absurd z (by decide), fun z => absurd z (by decide), fun z => absurd z (by decide), fun _ => ⟨n + 1, by omega, ?_⟩, fun z => absurd z (by decide)⟩
          rw [uL, if_neg (by omega), uL, if_pos rfl]
        · intro j hj
          simp only [uL]
          by_cases z0 : j = 0
          · rw [if_pos z0, if_neg (by omega), if_pos z0]
          · rw [if_neg z0, if_neg z0]
            by_cases z1 : j = n + 1
            · rw [if_pos z1, if_pos z1]
            · rw [if_neg z1, if_neg z1]; exact h.2 j hj
    · simp only [e8, if_true]
      exact ⟨1, 0, 0, 1, Wr, Ur, rfl, rfl, Or.inr rfl, rfl, fun z => absurd z (by decide), h⟩
/-! reads of a register -/
theorem cell_ix {k r j : Nat} (hk : k < 5) (hr : r < 32) (hj : j < 21) : 21 * (32 * k + r) + j < 3360 := by omega
theorem r_get {Bc Ce : Nat → Int64} (h : RV Bc Ce) (a0 a1 Th : Int32) :
    S_X5_get a0 a1 Bc ∧ S_X6_get a0 a1 Th Ce ∧ ∃ (o : Nat) (r r' : Int64) (th : Int32), f_X5_get a0 a1 Bc = (o, r) ∧ f_X6_get a0 a1 Th Ce = (r', th) ∧ (o = 0 ∨ o = 1 ∨ o = 2) ∧ th = k_L_get o ∧ (o = 0 → r = r') := by
  unfold S_X5_get S_X6_get f_X5_get f_X6_get
  rcases kin4 a0 with ⟨k, hk, rfl, e1, e2⟩ | ⟨e1, e2⟩
  · rcases reg a1 with ⟨r, hr, rfl, e3, e4⟩ | ⟨e3, e4⟩
    · have hw := wd_le hk
      have hl := hm_le hk hr
      have x1 : (21 : Int32) * ((32 : Int32) * nI k + nI r) = nI (21 * (32 * k + r)) := by
        rw [show (32 : Int32) = nI 32 from rfl, show (21 : Int32) = nI 21 from rfl, pk_mul, nI_add, pk_mul]
      simp only [e1, e2, e3, e4, ne10, if_true, if_false, homeN hk, x1]
      have c1 : (nI (hm k + r * wd k)).toNatClampNeg = hm k + r * wd k := clN (by omega)
      have c2 : (nI (21 * (32 * k + r))).toNatClampNeg = 21 * (32 * k + r) := clN (by omega)
      refine ⟨fun u1 _ _ u3 _ _ => ⟨S_homeN hk _, vin (by omega) (by omega), True.intro⟩, ⟨fun _ => True.intro, fun _ => ⟨fun _ => True.intro, fun _ => ⟨vin (by omega) (by omega), True.intro⟩⟩⟩, 0, _, _, 0, rfl, rfl, Or.inl rfl, rfl, fun _ => ?_⟩
      rw [c1, c2]
      have := (h k r hk hr).2 0 (by omega)
      simpa using this
    · simp only [e1, e2, e3, e4, ne10, if_true, if_false]
      exact ⟨fun u1 _ _ u3 hu h3 => absurd h3 (by rw [hu]; decide), ⟨fun _ => True.intro, fun _ => ⟨fun _ => True.intro, fun z => absurd trivial z⟩⟩, 2, 0, 0, 2, by rw [if_neg (by decide)], rfl, Or.inr (Or.inr rfl), rfl, fun z => absurd z (by decide)⟩
  · simp only [e1, e2, if_true, if_false]
    exact ⟨fun u1 hu h1 => absurd h1 (by rw [hu]; decide), ⟨fun _ => True.intro, fun z => absurd trivial z⟩, 1, 0, 0, 1, by rw [if_neg (by decide)], rfl, Or.inr (Or.inl rfl), rfl, fun z => absurd z (by decide)⟩
