/-! add -/
theorem ltoInt_add (a b : Int64) (h1 : -9000000000000000000 ≤ a.toInt + b.toInt) (h2 : a.toInt + b.toInt ≤ 9000000000000000000) : (a + b).toInt = a.toInt + b.toInt := by
  rw [Int64.toInt_add, Int.bmod_def]
  split <;> omega
theorem fin_out {k : Nat} {Va : Nat → Int64} (h : f_X6_isWithin (nI k) Va = 0) (a1 a2 full Th : Int32) (Ce : Nat → Int64) (Le : Nat → Int32) (De Ke : Int32) (Kc : Nat → Int64) (Ko Kl Kd : Nat → Int32) :
    S_X6_finish (nI k) a1 a2 full Th Ce Le De Ke Kc Ko Kl Kd Va ∧ f_X6_finish (nI k) a1 a2 full Th Ce Le De Ke Kc Ko Kl Kd Va = (0, Th, Ce, Le, Ke, Kc, Ko, Kl, Kd) := by
  unfold S_X6_finish f_X6_finish
  simp only [h, if_true]
  exact ⟨⟨S_iw _ _, fun u hu => ⟨fun _ => True.intro, fun z => absurd hu z⟩⟩, trivial⟩
def AF (i : Nat) (x y : Int64) (F : Nat → Int64) : Nat → Int64 := if F i = 0 then (if y = 0 then vp_updL (vp_updL F i (F i + x)) (i + 1) 0 else if y ≤ 0 then F else if x = 0 then F else vp_updL (vp_updL F i x) (i + 1) y) else (if y = F (i + 1) then vp_updL (vp_updL F i (F i + x)) (i + 1) (F (i + 1)) else if y ≤ F (i + 1) then F else if x = 0 then F else vp_updL (vp_updL F i x) (i + 1) y)
theorem AF_X5 {i : Nat} (hi : i + 1 < 21) (x y : Int64) (F : Nat → Int64) : S_X5_addFlexible (nI i) x y F ∧ f_X5_addFlexible (nI i) x y F = AF i x y F := by
  have a : vp_in (nI i) 21 := v21 i (by omega)
  have b : vp_in (nI (i + 1)) 21 := v21 (i + 1) hi
  have c1 : (nI i).toNatClampNeg = i := clN (by omega)
  have c2 : (nI (i + 1)).toNatClampNeg = i + 1 := clN (by omega)
  unfold S_X5_addFlexible f_X5_addFlexible
  rw [← nI_succ, c1, c2]
  exact ⟨⟨a, fun _ => ⟨fun _ => ⟨a, a, b, True.intro⟩, fun _ => ⟨fun _ => True.intro, fun _ => ⟨fun _ => True.intro, fun _ => ⟨a, b, True.intro⟩⟩⟩⟩, fun _ => ⟨b, fun _ => ⟨a, a, b, True.intro⟩, fun _ => ⟨fun _ => True.intro, fun _ => ⟨fun _ => True.intro, fun _ => ⟨a, b, True.intro⟩⟩⟩⟩⟩, rfl⟩
theorem AF_X6 {i s : Nat} (hi : i + 1 < 21) (hs : s < 32) (Ce F : Nat → Int64) : S_X6_addPart (nI s) (nI i) Ce F ∧ f_X6_addPart (nI s) (nI i) Ce F = AF i (Ce (21 * (64 + s) + i)) (Ce (21 * (64 + s) + i + 1)) F := by
  have a : vp_in (nI i) 21 := v21 i (by omega)
  have b : vp_in (nI (i + 1)) 21 := v21 (i + 1) hi
  have c1 : (nI i).toNatClampNeg = i := clN (by omega)
  have c2 : (nI (i + 1)).toNatClampNeg = i + 1 := clN (by omega)
  have e : (21 : Int32) * ((64 : Int32) + nI s) = nI (21 * (64 + s)) := sixN 64 s
  have c3 : (nI (21 * (64 + s) + i)).toNatClampNeg = 21 * (64 + s) + i := clN (by omega)
  have c4 : (nI (21 * (64 + s) + i + 1)).toNatClampNeg = 21 * (64 + s) + i + 1 := clN (by omega)
  unfold S_X6_addPart f_X6_addPart
  rw [e, nI_add, ← nI_succ, ← nI_succ, c1, c2, c3, c4]
  exact ⟨⟨vin (by omega) (by omega), vin (by omega) (by omega), a, fun _ => ⟨fun _ => ⟨a, a, b, True.intro⟩, fun _ => ⟨fun _ => True.intro, fun _ => ⟨fun _ => True.intro, fun _ => ⟨a, b, True.intro⟩⟩⟩⟩, fun _ => ⟨b, fun _ => ⟨a, a, b, True.intro⟩, fun _ => ⟨fun _ => True.intro, fun _ => ⟨fun _ => True.intro, fun _ => ⟨a, b, True.intro⟩⟩⟩⟩⟩, rfl⟩
theorem AF_cong {i : Nat} (hi : i + 1 < 5) (x y : Int64) {u F : Nat → Int64} (h : ∀ j, j < 5 → u j = F j) : ∀ j, j < 5 → AF i x y u j = AF i x y F j := by
  intro j hj
  unfold AF
  rw [h i (by omega), h (i + 1) hi]
  repeat' split
  all_goals simp only [uL, h j hj]
theorem AF_ord {i : Nat} (hi : i = 1 ∨ i = 3) (x : Int64) {y : Int64} {F : Nat → Int64} (hy : 0 ≤ y.toInt ∧ y.toInt ≤ 3) (h2 : 0 ≤ (F 2).toInt ∧ (F 2).toInt ≤ 3) (h4 : 0 ≤ (F 4).toInt ∧ (F 4).toInt ≤ 3) :
    (0 ≤ (AF i x y F 2).toInt ∧ (AF i x y F 2).toInt ≤ 3) ∧ (0 ≤ (AF i x y F 4).toInt ∧ (AF i x y F 4).toInt ≤ 3) := by
  have h0 : 0 ≤ ((0 : Int64)).toInt ∧ ((0 : Int64)).toInt ≤ 3 := by decide
  have t2 : ∀ (G : Nat → Int64) (v w : Int64), vp_updL (vp_updL G 1 v) 2 w 2 = w := fun G v w => by rw [uL, if_pos rfl]
  have t4 : ∀ (G : Nat → Int64) (v w : Int64), vp_updL (vp_updL G 1 v) 2 w 4 = G 4 := fun G v w => by rw [uL, if_neg (by omega), uL, if_neg (by omega)]
  have s2 : ∀ (G : Nat → Int64) (v w : Int64), vp_updL (vp_updL G 3 v) 4 w 2 = G 2 := fun G v w => by rw [uL, if_neg (by omega), uL, if_neg (by omega)]
  have s4 : ∀ (G : Nat → Int64) (v w : Int64), vp_updL (vp_updL G 3 v) 4 w 4 = w := fun G v w => by rw [uL, if_pos rfl]
  unfold AF
  rcases hi with rfl | rfl
  · repeat' split
    all_goals first | exact ⟨h2, h4⟩ | (simp only [Nat.reduceAdd, t2, t4]; first | exact ⟨h0, h4⟩ | exact ⟨hy, h4⟩ | exact ⟨h2, h4⟩)
  · repeat' split
    all_goals first | exact ⟨h2, h4⟩ | (simp only [Nat.reduceAdd, s2, s4]; first | exact ⟨h2, h0⟩ | exact ⟨h2, hy⟩ | exact ⟨h2, h4⟩)
theorem addGlue_at {h : Nat} (hh : h + 5 ≤ 928) (Bc Md : Nat → Int64) : S_X5_addGlue (nI h) Bc Md ∧ f_X5_addGlue (nI h) Bc Md = AF 3 (Bc (h + 3)) (Bc (h + 4)) (AF 1 (Bc (h + 1)) (Bc (h + 2)) (vp_updL Md 0 (Md 0 + Bc h))) := by
  have e1 : nI h + 1 = nI (h + 1) := (nI_succ h).symm
  have e2 : nI (h + 1) + 1 = nI (h + 2) := (nI_succ (h + 1)).symm
  have e3 : nI h + (3 : Int32) = nI (h + 3) := nI_add h 3
  have e4 : nI (h + 3) + 1 = nI (h + 4) := (nI_succ (h + 3)).symm
  have c0 : (nI h).toNatClampNeg = h := clN (by omega)
  have c1 : (nI (h + 1)).toNatClampNeg = h + 1 := clN (by omega)
  have c2 : (nI (h + 2)).toNatClampNeg = h + 2 := clN (by omega)
  have c3 : (nI (h + 3)).toNatClampNeg = h + 3 := clN (by omega)
  have c4 : (nI (h + 4)).toNatClampNeg = h + 4 := clN (by omega)
  obtain ⟨s1, r1⟩ := AF_X5 (i := 1) (by omega) (Bc (h + 1)) (Bc (h + 2)) (vp_updL Md 0 (Md 0 + Bc h))
  obtain ⟨s3, r3⟩ := AF_X5 (i := 3) (by omega) (Bc (h + 3)) (Bc (h + 4)) (AF 1 (Bc (h + 1)) (Bc (h + 2)) (vp_updL Md 0 (Md 0 + Bc h)))
  have s1 : S_X5_addFlexible (1 : Int32) (Bc (h + 1)) (Bc (h + 2)) (vp_updL Md 0 (Md 0 + Bc h)) := s1
  have r1 : f_X5_addFlexible (1 : Int32) (Bc (h + 1)) (Bc (h + 2)) (vp_updL Md 0 (Md 0 + Bc h)) = AF 1 (Bc (h + 1)) (Bc (h + 2)) (vp_updL Md 0 (Md 0 + Bc h)) := r1
  have s3 : S_X5_addFlexible (3 : Int32) (Bc (h + 3)) (Bc (h + 4)) (AF 1 (Bc (h + 1)) (Bc (h + 2)) (vp_updL Md 0 (Md 0 + Bc h))) := s3
  have r3 : f_X5_addFlexible (3 : Int32) (Bc (h + 3)) (Bc (h + 4)) (AF 1 (Bc (h + 1)) (Bc (h + 2)) (vp_updL Md 0 (Md 0 + Bc h))) = AF 3 (Bc (h + 3)) (Bc (h + 4)) (AF 1 (Bc (h + 1)) (Bc (h + 2)) (vp_updL Md 0 (Md 0 + Bc h))) := r3
  unfold S_X5_addGlue f_X5_addGlue
  rw [e1, e2, e3, e4, c0, c1, c2, c3, c4, cl0, r1]
  refine ⟨⟨v21 0 (by omega), vin (by omega) (by omega), v21 0 (by omega), vin (by omega) (by omega), vin (by omega) (by omega), s1, fun u7 e7 => ?_⟩, r3⟩
  rw [e7]
  exact ⟨vin (by omega) (by omega), vin (by omega) (by omega), s3, fun _ _ => True.intro⟩
theorem regL (a : Int64) : (∃ s, s < 32 ∧ a = lN s ∧ f_X5_checkRegister a = 0 ∧ f_X5_within a 0 31 = 1) ∨ (f_X5_checkRegister a = 2 ∧ f_X5_within a 0 31 = 0) := by
  unfold f_X5_checkRegister
  rcases win a 0 31 with ⟨h, h1, h2⟩ | ⟨h, h1⟩
  · have l0 : (0 : Int64).toInt = 0 := rfl
    have l31 : (31 : Int64).toInt = 31 := rfl
    refine Or.inl ⟨a.toInt.toNat, by omega, ?_, by rw [h, if_neg ne10], h⟩
    apply Int64.toInt_inj.mp
    rw [lN_toInt (by omega)]
    omega
  · exact Or.inr ⟨by rw [h, if_pos rfl], h⟩
theorem r_add {d K : Nat} {Bc Ce : Nat → Int64} {Bl Le Pk Pr Pl Ko Kl Kd Gf : Nat → Int32} {Pc Kc : Nat → Int64} (hd : d ≤ 20) (hK : K ≤ 200)
    (hV : RV Bc Ce) (hL : RLv Bl Le) (hP : RP K Pk Pr Pl Pc Ko Kl Kc) (hQ : RKv K Kl) (hD : RD d K Gf Kd) (a0 a1 : Int32) (a2 : Int64) (a3 Th : Int32) (Md Va : Nat → Int64) :
    S_X5_add a0 a1 a2 a3 Bc Bl Pk Pr Pl Pc (nI K) (nI d) Md ∧ S_X6_add a0 a1 a2 a3 Th Ce Le (nI d) (nI K) Kc Ko Kl Kd Va ∧
    ∃ (o : Nat) (y y' th : Int32) (Bc' : Nat → Int64) (Bl' Pk' Pr' Pl' : Nat → Int32) (Pc' : Nat → Int64) (K' : Nat) (Md' Ce' : Nat → Int64) (Le' : Nat → Int32) (Kc' : Nat → Int64) (Ko' Kl' Kd' : Nat → Int32) (Va' : Nat → Int64),
      f_X5_add a0 a1 a2 a3 Bc Bl Pk Pr Pl Pc (nI K) (nI d) Md = (o, y, Bc', Bl', Pk', Pr', Pl', Pc', nI K', Md') ∧
      f_X6_add a0 a1 a2 a3 Th Ce Le (nI d) (nI K) Kc Ko Kl Kd Va = (y', th, Ce', Le', nI K', Kc', Ko', Kl', Kd', Va') ∧
      (o = 0 ∨ o = 1 ∨ o = 2 ∨ o = 3) ∧ th = k_L_add o ∧ (o = 0 → y = y') ∧ K' ≤ 200 ∧ RV Bc' Ce' ∧ RLv Bl' Le' ∧ RP K' Pk' Pr' Pl' Pc' Ko' Kl' Kc' ∧ RKv K' Kl' ∧ RD d K' Gf Kd' := by
  unfold S_X5_add S_X6_add f_X5_add f_X6_add
  rw [in_eq]
  have hk2 := kin2 a0
  rw [in_eq] at hk2
  rcases hk2 with ⟨k, hk, rfl, e1, e2⟩ | ⟨e1, e2⟩
  · have i2 : (nI k = (2 : Int32)) ↔ k = 2 := nI_eq (b := 2) (by omega) (by omega)
    rcases reg a1 with ⟨r, hr, rfl, e3, e4⟩ | ⟨e3, e4⟩
    · by_cases k2 : k = 2
      · subst k2
        have k2' : nI 2 = (2 : Int32) := rfl
        rcases regL a2 with ⟨s, hs, rfl, e8, e9⟩ | ⟨e8, e9⟩
        · obtain ⟨sc, ec⟩ := copyTo_at (k := 2) (by omega) hr hV Md
          obtain ⟨sf, ef⟩ := fetch_at (k := 2) (by omega) hr Ce Va
          have sc : S_X0_copyTo (2 : Int32) (nI r) Bc Md := sc
          have ec : ∀ j, j < 5 → f_X0_copyTo (2 : Int32) (nI r) Bc Md j = Ce (21 * (32 * 2 + r) + j) := ec
          have x1 : (lN s).toInt32 = nI s := lN_i s
          have x2 : f_X0_home (2 : Int32) (nI s) = nI (64 + s * 5) := home2 s
          have x3 : (21 : Int32) * ((64 : Int32) + nI s) = nI (21 * (64 + s)) := sixN 64 s
          have c3 : (nI (21 * (64 + s))).toNatClampNeg = 21 * (64 + s) := clN (by omega)
          obtain ⟨sg, eg⟩ := addGlue_at (h := 64 + s * 5) (by omega) Bc (f_X0_copyTo (2 : Int32) (nI r) Bc Md)
          obtain ⟨so, ho⟩ := hV 2 s (by omega) hs
          have ho : ∀ j, j < 5 → Bc (64 + s * 5 + j) = Ce (21 * (64 + s) + j) := ho
          have so := (so.2.2.1 rfl).2.2.2
          have so : (0 ≤ (Ce (21 * (64 + s) + 2)).toInt ∧ (Ce (21 * (64 + s) + 2)).toInt ≤ 3) ∧ (0 ≤ (Ce (21 * (64 + s) + 4)).toInt ∧ (Ce (21 * (64 + s) + 4)).toInt ≤ 3) := so
          obtain ⟨p1, q1⟩ := AF_X6 (i := 1) (s := s) (by omega) hs Ce (vp_updL (f_X6_fetch (nI 2) (nI r) Ce Va) 0 (f_X6_fetch (nI 2) (nI r) Ce Va 0 + Ce (21 * (64 + s))))
          obtain ⟨p3, q3⟩ := AF_X6 (i := 3) (s := s) (by omega) hs Ce (AF 1 (Ce (21 * (64 + s) + 1)) (Ce (21 * (64 + s) + 2)) (vp_updL (f_X6_fetch (nI 2) (nI r) Ce Va) 0 (f_X6_fetch (nI 2) (nI r) Ce Va 0 + Ce (21 * (64 + s)))))
          have p1' : S_X6_addPart (lN s).toInt32 (1 : Int32) Ce (vp_updL (f_X6_fetch (nI 2) (nI r) Ce Va) (0 : Int32).toNatClampNeg ((f_X6_fetch (nI 2) (nI r) Ce Va) (0 : Int32).toNatClampNeg + (Ce ((21 : Int32) * ((64 : Int32) + (lN s).toInt32)).toNatClampNeg))) := by
            rw [x1, x3, c3]; exact p1
          have q1' : (f_X6_addPart (lN s).toInt32 (1 : Int32) Ce (vp_updL (f_X6_fetch (nI 2) (nI r) Ce Va) (0 : Int32).toNatClampNeg ((f_X6_fetch (nI 2) (nI r) Ce Va) (0 : Int32).toNatClampNeg + (Ce ((21 : Int32) * ((64 : Int32) + (lN s).toInt32)).toNatClampNeg)))) = AF 1 (Ce (21 * (64 + s) + 1)) (Ce (21 * (64 + s) + 2)) (vp_updL (f_X6_fetch (nI 2) (nI r) Ce Va) 0 (f_X6_fetch (nI 2) (nI r) Ce Va 0 + Ce (21 * (64 + s)))) := by
            rw [x1, x3, c3]; exact q1
          have p3' : S_X6_addPart (lN s).toInt32 (3 : Int32) Ce (f_X6_addPart (lN s).toInt32 (1 : Int32) Ce (vp_updL (f_X6_fetch (nI 2) (nI r) Ce Va) (0 : Int32).toNatClampNeg ((f_X6_fetch (nI 2) (nI r) Ce Va) (0 : Int32).toNatClampNeg + (Ce ((21 : Int32) * ((64 : Int32) + (lN s).toInt32)).toNatClampNeg)))) := by
            rw [q1', x1]; exact p3
          have q3' : (f_X6_addPart (lN s).toInt32 (3 : Int32) Ce (f_X6_addPart (lN s).toInt32 (1 : Int32) Ce (vp_updL (f_X6_fetch (nI 2) (nI r) Ce Va) (0 : Int32).toNatClampNeg ((f_X6_fetch (nI 2) (nI r) Ce Va) (0 : Int32).toNatClampNeg + (Ce ((21 : Int32) * ((64 : Int32) + (lN s).toInt32)).toNatClampNeg))))) = AF 3 (Ce (21 * (64 + s) + 3)) (Ce (21 * (64 + s) + 4)) (AF 1 (Ce (21 * (64 + s) + 1)) (Ce (21 * (64 + s) + 2)) (vp_updL (f_X6_fetch (nI 2) (nI r) Ce Va) 0 (f_X6_fetch (nI 2) (nI r) Ce Va 0 + Ce (21 * (64 + s))))) := by
            rw [q1', x1]; exact q3
          have sg' : S_X5_addGlue (f_X0_home (2 : Int32) (lN s).toInt32) Bc (f_X0_copyTo (2 : Int32) (nI r) Bc Md) := by
            rw [x1, x2]; exact sg
          have eg' : (f_X5_addGlue (f_X0_home (2 : Int32) (lN s).toInt32) Bc (f_X0_copyTo (2 : Int32) (nI r) Bc Md)) = AF 3 (Bc (64 + s * 5 + 3)) (Bc (64 + s * 5 + 4)) (AF 1 (Bc (64 + s * 5 + 1)) (Bc (64 + s * 5 + 2)) (vp_updL (f_X0_copyTo (2 : Int32) (nI r) Bc Md) 0 ((f_X0_copyTo (2 : Int32) (nI r) Bc Md) 0 + Bc (64 + s * 5)))) := by
            rw [x1, x2]; exact eg
          have hu0 : ∀ j, j < 5 → (f_X0_copyTo (2 : Int32) (nI r) Bc Md) j = f_X6_fetch (nI 2) (nI r) Ce Va j := fun j hj => (ec j hj).trans (ef j (by omega)).symm
          have hu1 : ∀ j, j < 5 → vp_updL (f_X0_copyTo (2 : Int32) (nI r) Bc Md) 0 ((f_X0_copyTo (2 : Int32) (nI r) Bc Md) 0 + Bc (64 + s * 5)) j = vp_updL (f_X6_fetch (nI 2) (nI r) Ce Va) 0 (f_X6_fetch (nI 2) (nI r) Ce Va 0 + Ce (21 * (64 + s))) j := by
            intro j hj
            have e := ho 0 (by omega)
            have e : Bc (64 + s * 5) = Ce (21 * (64 + s)) := e
            simp only [uL]
            rw [e, hu0 0 (by omega), hu0 j hj]
          have hv : ∀ j, j < wd 2 → (f_X5_addGlue (f_X0_home (2 : Int32) (lN s).toInt32) Bc (f_X0_copyTo (2 : Int32) (nI r) Bc Md)) j = (f_X6_addPart (lN s).toInt32 (3 : Int32) Ce (f_X6_addPart (lN s).toInt32 (1 : Int32) Ce (vp_updL (f_X6_fetch (nI 2) (nI r) Ce Va) (0 : Int32).toNatClampNeg ((f_X6_fetch (nI 2) (nI r) Ce Va) (0 : Int32).toNatClampNeg + (Ce ((21 : Int32) * ((64 : Int32) + (lN s).toInt32)).toNatClampNeg))))) j := by
            intro j hj
            have hj : j < 5 := hj
            rw [eg', q3', ho 1 (by omega), ho 2 (by omega), ho 3 (by omega), ho 4 (by omega)]
            exact AF_cong (by omega) _ _ (AF_cong (by omega) _ _ hu1) j hj
          have hz : ∀ j, j < 5 → 0 < j → vp_updL (f_X6_fetch (nI 2) (nI r) Ce Va) 0 (f_X6_fetch (nI 2) (nI r) Ce Va 0 + Ce (21 * (64 + s))) j = Ce (21 * (32 * 2 + r) + j) := by
            intro j hj h0
            rw [uL, if_neg (by omega), ef j (by omega)]
          have hr2 := ((hV 2 r (by omega) hr).1.2.2.1 rfl).2.2.2
          have h2 : 2 = 2 → (0 ≤ ((f_X6_addPart (lN s).toInt32 (3 : Int32) Ce (f_X6_addPart (lN s).toInt32 (1 : Int32) Ce (vp_updL (f_X6_fetch (nI 2) (nI r) Ce Va) (0 : Int32).toNatClampNeg ((f_X6_fetch (nI 2) (nI r) Ce Va) (0 : Int32).toNatClampNeg + (Ce ((21 : Int32) * ((64 : Int32) + (lN s).toInt32)).toNatClampNeg))))) 2).toInt ∧ ((f_X6_addPart (lN s).toInt32 (3 : Int32) Ce (f_X6_addPart (lN s).toInt32 (1 : Int32) Ce (vp_updL (f_X6_fetch (nI 2) (nI r) Ce Va) (0 : Int32).toNatClampNeg ((f_X6_fetch (nI 2) (nI r) Ce Va) (0 : Int32).toNatClampNeg + (Ce ((21 : Int32) * ((64 : Int32) + (lN s).toInt32)).toNatClampNeg))))) 2).toInt ≤ 3) ∧ (0 ≤ ((f_X6_addPart (lN s).toInt32 (3 : Int32) Ce (f_X6_addPart (lN s).toInt32 (1 : Int32) Ce (vp_updL (f_X6_fetch (nI 2) (nI r) Ce Va) (0 : Int32).toNatClampNeg ((f_X6_fetch (nI 2) (nI r) Ce Va) (0 : Int32).toNatClampNeg + (Ce ((21 : Int32) * ((64 : Int32) + (lN s).toInt32)).toNatClampNeg))))) 4).toInt ∧ ((f_X6_addPart (lN s).toInt32 (3 : Int32) Ce (f_X6_addPart (lN s).toInt32 (1 : Int32) Ce (vp_updL (f_X6_fetch (nI 2) (nI r) Ce Va) (0 : Int32).toNatClampNeg ((f_X6_fetch (nI 2) (nI r) Ce Va) (0 : Int32).toNatClampNeg + (Ce ((21 : Int32) * ((64 : Int32) + (lN s).toInt32)).toNatClampNeg))))) 4).toInt ≤ 3) := by
            intro _
            rw [q3']
            have a1 := AF_ord (i := 1) (Or.inl rfl) (Ce (21 * (64 + s) + 1)) so.1 (F := vp_updL (f_X6_fetch (nI 2) (nI r) Ce Va) 0 (f_X6_fetch (nI 2) (nI r) Ce Va 0 + Ce (21 * (64 + s)))) (by rw [hz 2 (by omega) (by omega)]; exact hr2.1) (by rw [hz 4 (by omega) (by omega)]; exact hr2.2)
            exact AF_ord (i := 3) (Or.inr rfl) (Ce (21 * (64 + s) + 3)) so.2 a1.1 a1.2
          obtain ⟨s5, s6, o, y, th, Bc', Bl', Pk', Pr', Pl', Pc', K', Ce', Le', Kc', Ko', Kl', Kd', e5, e6, hc, hK', rest⟩ := r_fin hd hK hV hL hP hQ hD (k := 2) (by omega) hr a3 3 (by decide) hv h2 (fun z => absurd z (by omega)) (fun z => absurd z (by omega))
          refine ⟨fun u1 _ _ u3 _ _ => ⟨fun _ u14 _ _ => ⟨sc, fun u17 e17 => by rw [e17]; exact ⟨by rw [x1]; exact S_homeN (k := 2) (by omega) _, sg', fun u20 e20 => by rw [e20]; exact ⟨s5, fun _ _ _ => True.intro⟩⟩⟩, fun z => absurd k2' z⟩,
            ⟨fun _ => True.intro, fun _ => ⟨fun _ => True.intro, fun _ => ⟨fun _ => ⟨fun _ => True.intro, fun _ => ⟨sf, fun u17 e17 => by rw [e17]; exact ⟨v21 0 (by omega), by rw [x1, x3]; exact vin (by omega) (by omega), v21 0 (by omega), p1', fun u23 e23 => by rw [e23]; exact ⟨p3', fun u25 e25 => by rw [e25]; exact ⟨s6, fun _ _ => True.intro⟩⟩⟩⟩⟩, fun z => absurd k2' z⟩⟩⟩, ?_⟩
          simp only [e1, e2, e3, e4, e8, e9, ne10, if_true, if_false, if_pos k2', e5, e6]
          rcases hc with ⟨rfl, rfl, hy⟩ | ⟨rfl, rfl, rfl⟩
          · simp only [if_true]
            exact ⟨0, _, _, _, _, _, _, _, _, _, K', _, _, _, _, _, _, _, _, rfl, rfl, Or.inl rfl, rfl, fun _ => rfl, hK', rest.1, rest.2.1, rest.2.2.1, rest.2.2.2.1, rest.2.2.2.2⟩
          · simp only [n30, if_false]
            exact ⟨3, _, _, _, _, _, _, _, _, _, K', _, _, _, _, _, _, _, _, rfl, rfl, Or.inr (Or.inr (Or.inr rfl)), rfl, fun z => absurd z (by decide), hK', rest.1, rest.2.1, rest.2.2.1, rest.2.2.2.1, rest.2.2.2.2⟩
        · simp only [e1, e2, e3, e4, e8, e9, ne10, if_true, if_false, if_pos k2']
          exact ⟨fun u1 _ _ u3 _ _ => ⟨fun _ u14 hu h14 => absurd h14 (by rw [hu]; decide), fun z => absurd k2' z⟩, ⟨fun z => z.elim, fun _ => ⟨fun z => z.elim, fun _ => ⟨fun _ => ⟨fun _ => True.intro, fun z => absurd trivial z⟩, fun z => absurd k2' z⟩⟩⟩, 2, 0, 0, 2, Bc, Bl, Pk, Pr, Pl, Pc, K, Md, Ce, Le, Kc, Ko, Kl, Kd, Va, by first | rfl | (rw [if_neg (by decide)]), rfl, Or.inr (Or.inr (Or.inl rfl)), rfl, fun z => absurd z (by decide), hK, hV, hL, hP, hQ, hD⟩
      · have k2' : ¬ nI k = (2 : Int32) := fun z => k2 (i2.mp z)
        have hwd : wd k = 1 := by
          rcases (show k = 0 ∨ k = 1 by omega) with rfl | rfl <;> rfl
        obtain ⟨sc, ec⟩ := copyTo_at (k := k) (by omega) hr hV Md
        obtain ⟨sf, ef⟩ := fetch_at (k := k) (by omega) hr Ce Va
        have l4a : (-4294967294 : Int64).toInt = -4294967294 := by decide
        have l4b : (4294967294 : Int64).toInt = 4294967294 := by decide
        have l6a : (-6442450941 : Int64).toInt = -6442450941 := by decide
        have l6b : (6442450941 : Int64).toInt = 6442450941 := by decide
        rcases win a2 (-4294967294) 4294967294 with ⟨e8, b1, b2⟩ | ⟨e8, b⟩
        · have e9 : f_X5_within a2 (-6442450941) 6442450941 = 1 := w1 (by omega) (by omega)
          have hv : ∀ j, j < wd k → (vp_updL (f_X0_copyTo (nI k) (nI r) Bc Md) (0 : Int32).toNatClampNeg ((f_X0_copyTo (nI k) (nI r) Bc Md) (0 : Int32).toNatClampNeg + a2)) j = (vp_updL (f_X6_fetch (nI k) (nI r) Ce Va) (0 : Int32).toNatClampNeg ((f_X6_fetch (nI k) (nI r) Ce Va) (0 : Int32).toNatClampNeg + a2)) j := by
            intro j hj
            have j0 : j = 0 := by omega
            subst j0
            simp only [uL, cl0, if_true]
            rw [ec 0 (by omega), ef 0 (by omega)]
          obtain ⟨s5, s6, o, y, th, Bc', Bl', Pk', Pr', Pl', Pc', K', Ce', Le', Kc', Ko', Kl', Kd', e5, e6, hc, hK', rest⟩ := r_fin hd hK hV hL hP hQ hD (k := k) (by omega) hr a3 3 (by decide) hv (fun z => absurd z k2) (fun z => absurd z (by omega)) (fun z => absurd z (by omega))
          refine ⟨fun u1 _ _ u3 _ _ => ⟨fun z => absurd z k2', fun _ => ⟨fun _ => True.intro, fun _ => ⟨sc, fun u8 e88 => by rw [e88]; exact ⟨v21 0 (by omega), v21 0 (by omega), s5, fun _ _ _ => True.intro⟩⟩⟩⟩,
            ⟨fun _ => True.intro, fun _ => ⟨fun _ => True.intro, fun _ => ⟨fun z => absurd z k2', fun _ => ⟨sf, fun u7 e77 => by rw [e77]; exact ⟨fun _ => True.intro, fun _ => ⟨v21 0 (by omega), v21 0 (by omega), s6, fun _ _ => True.intro⟩⟩⟩⟩⟩⟩, ?_⟩
          simp only [e1, e2, e3, e4, e8, e9, ne10, if_true, if_false, if_neg k2', e5, e6]
          rcases hc with ⟨rfl, rfl, hy⟩ | ⟨rfl, rfl, rfl⟩
          · simp only [if_true]
            exact ⟨0, _, _, _, _, _, _, _, _, _, K', _, _, _, _, _, _, _, _, rfl, rfl, Or.inl rfl, rfl, fun _ => rfl, hK', rest.1, rest.2.1, rest.2.2.1, rest.2.2.2.1, rest.2.2.2.2⟩
          · simp only [n30, if_false]
            exact ⟨3, _, _, _, _, _, _, _, _, _, K', _, _, _, _, _, _, _, _, rfl, rfl, Or.inr (Or.inr (Or.inr rfl)), rfl, fun z => absurd z (by decide), hK', rest.1, rest.2.1, rest.2.2.1, rest.2.2.2.1, rest.2.2.2.2⟩
        · rcases win a2 (-6442450941) 6442450941 with ⟨e9, b1, b2⟩ | ⟨e9, b9⟩
          · have hout : f_X6_isWithin (nI k) (vp_updL (f_X6_fetch (nI k) (nI r) Ce Va) (0 : Int32).toNatClampNeg ((f_X6_fetch (nI k) (nI r) Ce Va) (0 : Int32).toNatClampNeg + a2)) = 0 := by
              have hb := (hV k r (by omega) hr).1
              have v0 : (vp_updL (f_X6_fetch (nI k) (nI r) Ce Va) (0 : Int32).toNatClampNeg ((f_X6_fetch (nI k) (nI r) Ce Va) (0 : Int32).toNatClampNeg + a2)) 0 = Ce (21 * (32 * k + r) + 0) + a2 := by
                simp only [uL, cl0, if_true]
                rw [ef 0 (by omega)]
              rw [iw_eq]
              rcases (show k = 0 ∨ k = 1 by omega) with rfl | rfl
              · rw [mf0, v0]
                have h0 : -2147483647 ≤ (Ce (21 * (32 * 0 + r) + 0)).toInt ∧ (Ce (21 * (32 * 0 + r) + 0)).toInt ≤ 2147483647 := hb.1 rfl
                have l1 : (-2147483647 : Int64).toInt = -2147483647 := by decide
                have l2 : (2147483647 : Int64).toInt = 2147483647 := by decide
                refine w0 ?_
                rw [ltoInt_add _ _ (by omega) (by omega)]
                omega
              · rw [mf1, v0]
                have h0 : -1073741823 ≤ (Ce (21 * (32 * 1 + r) + 0)).toInt ∧ (Ce (21 * (32 * 1 + r) + 0)).toInt ≤ 1073741823 := hb.2.1 rfl
                have l1 : (-1073741823 : Int64).toInt = -1073741823 := by decide
                have l2 : (1073741823 : Int64).toInt = 1073741823 := by decide
                refine w0 ?_
                rw [ltoInt_add _ _ (by omega) (by omega)]
                omega
            obtain ⟨s6, e6⟩ := fin_out hout (nI r) a3 3 0 Ce Le (nI d) (nI K) Kc Ko Kl Kd
            refine ⟨fun u1 _ _ u3 _ _ => ⟨fun z => absurd z k2', fun _ => ⟨fun _ => True.intro, fun z => absurd e8 z⟩⟩,
              ⟨fun _ => True.intro, fun _ => ⟨fun _ => True.intro, fun _ => ⟨fun z => absurd z k2', fun _ => ⟨sf, fun u7 e77 => by rw [e77]; exact ⟨fun _ => True.intro, fun _ => ⟨v21 0 (by omega), v21 0 (by omega), s6, fun _ _ => True.intro⟩⟩⟩⟩⟩⟩, ?_⟩
            simp only [e1, e2, e3, e4, e8, e9, ne10, if_true, if_false, if_neg k2', e6]
            exact ⟨0, 0, 0, 0, Bc, Bl, Pk, Pr, Pl, Pc, K, Md, Ce, Le, Kc, Ko, Kl, Kd, _, rfl, rfl, Or.inl rfl, rfl, fun _ => rfl, hK, hV, hL, hP, hQ, hD⟩
          · refine ⟨fun u1 _ _ u3 _ _ => ⟨fun z => absurd z k2', fun _ => ⟨fun _ => True.intro, fun z => absurd e8 z⟩⟩,
              ⟨fun _ => True.intro, fun _ => ⟨fun _ => True.intro, fun _ => ⟨fun z => absurd z k2', fun _ => ⟨sf, fun u7 e77 => by rw [e77]; exact ⟨fun _ => True.intro, fun z => absurd e9 z⟩⟩⟩⟩⟩, ?_⟩
            simp only [e1, e2, e3, e4, e8, e9, ne10, if_true, if_false, if_neg k2']
            exact ⟨0, 0, 0, 0, Bc, Bl, Pk, Pr, Pl, Pc, K, Md, Ce, Le, Kc, Ko, Kl, Kd, _, rfl, rfl, Or.inl rfl, rfl, fun _ => rfl, hK, hV, hL, hP, hQ, hD⟩
    · simp only [e1, e2, e3, e4, ne10, if_true, if_false]
      exact ⟨fun u1 _ _ u3 hu h3 => absurd h3 (by rw [hu]; decide), ⟨fun z => z.elim, fun _ => ⟨fun _ => True.intro, fun z => absurd trivial z⟩⟩, 2, 0, 0, 2, Bc, Bl, Pk, Pr, Pl, Pc, K, Md, Ce, Le, Kc, Ko, Kl, Kd, Va, by first | rfl | (rw [if_neg (by decide)]), rfl, Or.inr (Or.inr (Or.inl rfl)), rfl, fun z => absurd z (by decide), hK, hV, hL, hP, hQ, hD⟩
  · simp only [e1, e2, if_true, if_false]
    exact ⟨fun u1 hu h1 => absurd h1 (by rw [hu]; decide), ⟨fun _ => True.intro, fun z => absurd trivial z⟩, 1, 0, 0, 1, Bc, Bl, Pk, Pr, Pl, Pc, K, Md, Ce, Le, Kc, Ko, Kl, Kd, Va, by first | rfl | (rw [if_neg (by decide)]), rfl, Or.inr (Or.inl rfl), rfl, fun z => absurd z (by decide), hK, hV, hL, hP, hQ, hD⟩
