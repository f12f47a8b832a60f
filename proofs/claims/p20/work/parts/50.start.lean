theorem D_split {A : Nat → Prop} {ws : va_W} {ad am : Nat → Nat} {ou : Nat} (hD : va_D A ws) (hw : ws.map Prod.fst = (List.range 23).map ad ++ ((List.range 17).map am ++ [ou])) : fI 23 ad ∧ fI 17 am ∧ (∀ k, k < 23 → A (ad k)) ∧ (∀ k, k < 17 → A (am k)) ∧ A ou ∧ (∀ k j, k < 23 → j < 17 → ad k ≠ am j) ∧ (∀ k, k < 23 → ou ≠ ad k) ∧ ∀ j, j < 17 → ou ≠ am j := by
  have g : ∀ (n a : Nat), (ws.map Prod.fst)[n]? = some a → ∃ q, ws[n]? = some q ∧ q.1 = a := by
    intro n a h
    rw [List.getElem?_map] at h
    cases hq : ws[n]? with
    | none => rw [hq] at h; cases h
    | some q => rw [hq] at h; exact ⟨q, rfl, Option.some.inj h⟩
  have ga : ∀ k, k < 23 → ∃ q, ws[k]? = some q ∧ q.1 = ad k := fun k hk => g k _ (by
    rw [hw, List.getElem?_append_left (by rw [List.length_map, List.length_range]; exact hk), List.getElem?_map, List.getElem?_range hk]; rfl)
  have gm : ∀ j, j < 17 → ∃ q, ws[23 + j]? = some q ∧ q.1 = am j := fun j hj => g (23 + j) _ (by
    have e : 23 + j - ((List.range 23).map ad).length = j := by rw [List.length_map, List.length_range]; omega
    rw [hw, List.getElem?_append_right (by rw [List.length_map, List.length_range]; omega), e, List.getElem?_append_left (by rw [List.length_map, List.length_range]; exact hj), List.getElem?_map, List.getElem?_range hj]; rfl)
  have go : ∃ q, ws[40]? = some q ∧ q.1 = ou := g 40 _ (by
    have e : 40 - ((List.range 23).map ad).length = 17 := by rw [List.length_map, List.length_range]
    have e2 : 17 - ((List.range 17).map am).length = 0 := by rw [List.length_map, List.length_range]
    rw [hw, List.getElem?_append_right (by rw [List.length_map, List.length_range]; omega), e, List.getElem?_append_right (by rw [List.length_map, List.length_range]; omega), e2]; rfl)
  refine ⟨fun i j hi hj e => ?_, fun i j hi hj e => ?_, fun k hk => ?_, fun k hk => ?_, ?_, fun k j hk hj e => ?_, fun k hk e => ?_, fun j hj e => ?_⟩
  · obtain ⟨q, h1, h2⟩ := ga i hi; obtain ⟨r, h3, h4⟩ := ga j hj
    exact hD.1 i j q r h1 h3 (by rw [h2, h4, e])
  · obtain ⟨q, h1, h2⟩ := gm i hi; obtain ⟨r, h3, h4⟩ := gm j hj
    have := hD.1 _ _ q r h1 h3 (by rw [h2, h4, e])
    omega
  · obtain ⟨q, h1, h2⟩ := ga k hk; rw [← h2]; exact hD.2 _ q h1
  · obtain ⟨q, h1, h2⟩ := gm k hk; rw [← h2]; exact hD.2 _ q h1
  · obtain ⟨q, h1, h2⟩ := go; rw [← h2]; exact hD.2 _ q h1
  · obtain ⟨q, h1, h2⟩ := ga k hk; obtain ⟨r, h3, h4⟩ := gm j hj
    have := hD.1 _ _ q r h1 h3 (by rw [h2, h4, e])
    omega
  · obtain ⟨q, h1, h2⟩ := go; obtain ⟨r, h3, h4⟩ := ga k hk
    have := hD.1 _ _ q r h1 h3 (by rw [h2, h4, e])
    omega
  · obtain ⟨q, h1, h2⟩ := go; obtain ⟨r, h3, h4⟩ := gm j hj
    have := hD.1 _ _ q r h1 h3 (by rw [h2, h4, e])
    omega
set_option maxHeartbeats 4000000 in
set_option maxRecDepth 100000 in
/-- THE LAW, from its entry -/
theorem whole_start {p : Program} {e : Env} {s : State} {m : MethodId} {below : List Frame} {meth : Method} {c : Code} (l : Launch) (hflags : l.flags = flags0) {b L : Nat} {xs : Nat → Int32} (hL : L ≤ 4608) (C0 : lw_At p s m meth c b L xs) : W p l e room_1 s m #[Value.ref b] below meth c s.heap [] 0 0 (lw_Z below #[Value.ref b] s) (entryFrame m ([Value.ref b] : List Value).toArray 8) := by
  obtain ⟨hx, hb, hr, hml, hown, hts0, hX, hbl, hlocks, hgv⟩ := C0
  have hb : c.code = cL_law := hb
  have hown : s.vm.findClass RL = some m.cls := hown
  have hst : l.stackTraces = false := by unfold Launch.stackTraces; rw [hflags]; decide
  have hts := big_hts hts0
  have hC := cxt_at hts0 hgv
  have hn18 : va_Nw (.methodLinkNest RX5 18 yX3_init RX5) s := va_Nw.of rfl (hts0 _ in_nst2.1)
  have hn25 : va_Nw (.methodLinkNest RX5 25 yX2_init RX5) s := va_Nw.of rfl (hts0 _ in_nst2.2.1)
  have hn32 : va_Nw (.methodLinkNest RX5 32 yX1_init RX5) s := va_Nw.of rfl (hts0 _ in_nst2.2.2.1)
  have hn39 : va_Nw (.methodLinkNest RX5 39 yX4_init RX5) s := va_Nw.of rfl (hts0 _ in_nst2.2.2.2)
  have hA : ∀ q : Nat, s.heap.size ≤ q → nA s q := fun _ h => h
  have hbA : ¬ nA s b := Nat.not_le.mpr hbl
  obtain ⟨c0, i0, k0⟩ := u_known (C := RJ0) (T := TJ0) (N := 2) (n := 4) hts iW_J0 (hts _ mA_RJ0)
  obtain ⟨c1, i1, k1⟩ := u_known (C := RJx00060) (T := TJx00060) (N := 6) (n := 6) hts iW_Jx (hts _ mA_RJx00060)
  obtain ⟨c2, i2, k2⟩ := u_known (C := RX0) (T := TX0) (N := 2) (n := 2) hts iW_X0 (hts _ mA_RX0)
  obtain ⟨c3, i3, k3⟩ := u_known (C := RX1) (T := TX1) (N := 7) (n := 7) hts iW_X1 (hts _ mA_RX1)
  obtain ⟨c4, i4, k4⟩ := u_known (C := RX2) (T := TX2) (N := 5) (n := 5) hts iW_X2 (hts _ mA_RX2)
  obtain ⟨c5, i5, k5⟩ := u_known (C := RX3) (T := TX3) (N := 5) (n := 5) hts iW_X3 (hts _ mA_RX3)
  obtain ⟨c6, i6, k6⟩ := u_known (C := RX4) (T := TX4) (N := 2) (n := 2) hts iW_X4 (hts _ mA_RX4)
  obtain ⟨c7, i7, k7⟩ := u_known (C := RX5) (T := TX5) (N := 8) (n := 8) hts iW_X5 (hts _ mA_RX5)
  obtain ⟨c8, i8, k8⟩ := u_known (C := RX6) (T := TX6) (N := 24) (n := 24) hts iW_X6 (hts _ mA_RX6)
  obtain ⟨dC, dI, hKc⟩ : ∃ (dC : Nat → ClassId) (dI : Nat → Nat → Nat), ∀ (k : Nat) (q : vw_C), vwCl[k]? = some q → u_Kn s q.1 q.2.1 q.2.2 (dC k) (dI k) := by
    refine ⟨fun k => if k = 0 then c0 else if k = 1 then c1 else if k = 2 then c2 else if k = 3 then c3 else if k = 4 then c4 else if k = 5 then c5 else if k = 6 then c6 else if k = 7 then c7 else c8, fun k => if k = 0 then i0 else if k = 1 then i1 else if k = 2 then i2 else if k = 3 then i3 else if k = 4 then i4 else if k = 5 then i5 else if k = 6 then i6 else if k = 7 then i7 else i8, ?_⟩
    intro k q hq
    match k, hq with
    | 0, hq => cases hq; exact k0
    | 1, hq => cases hq; exact k1
    | 2, hq => cases hq; exact k2
    | 3, hq => cases hq; exact k3
    | 4, hq => cases hq; exact k4
    | 5, hq => cases hq; exact k5
    | 6, hq => cases hq; exact k6
    | 7, hq => cases hq; exact k7
    | 8, hq => cases hq; exact k8
    | k + 9, hq => simp [vwCl] at hq
  obtain ⟨cI, hI⟩ := arrK (hts _ mB_int) (fun C z => by cases z)
  obtain ⟨cJ, hJ⟩ := arrK (hts _ mB_long) (fun C z => by cases z)
  have hK : va_K (dC, dI) vwCl [(cI, .int), (cJ, .long)] s := ⟨hKc, fun k q h => by
    match k, h with
    | 0, h => cases h; exact hI
    | 1, h => cases h; exact hJ
    | k + 2, h => simp at h⟩
  have hS : va_S (nA s) s.heap s.heap [] := va_S.rf
  have hP : va_P (dC, dI) vwCl [] s.heap := fun k q h => by simp at h
  have hD : va_D (nA s) [] := ⟨fun i j p q h => by simp at h, fun k q h => by simp at h⟩
  have hl := lv_entry ([.ref b]) (n := 8) (Nat.le_of_ble_eq_true rfl)
  rw [lg_entry_eq]
  generalize (lg_sl ([.ref b]) ++ List.replicate (8 - (lg_sl ([.ref b])).length) Slot.unset).toArray = ls at hl ⊢
  have hl : lv_has ls 8 [(0, .ref b)] := hl
  refine va_new (ci := 7) (fs := [.null, .null, .null, .null, .null, .null, .null, .null]) (C := RX5) (T := TX5) (N := 8) hx hb hts iW_X5 tyX5 tyX5_ok hown (hts _ mC_RL_8) (hts _ mA_RX5) (hts _ mN_RX5) hK hP hD hS hA rfl (fun j hj => by rcases (show j = 0 ∨ j = 1 ∨ j = 2 ∨ j = 3 ∨ j = 4 ∨ j = 5 ∨ j = 6 ∨ j = 7 by omega) with rfl | rfl | rfl | rfl | rfl | rfl | rfl | rfl <;> rfl) (Nat.le_of_ble_eq_true rfl) (Nat.le_of_ble_eq_true rfl) dL_law_0 (fun q0 H hP hD hS => ?_)
  have hP : va_P (dC, dI) vwCl [(q0, .inr (7, [.null, .null, .null, .null, .null, .null, .null, .null]))] H := hP
  have hD : va_D (nA s) [(q0, .inr (7, [.null, .null, .null, .null, .null, .null, .null, .null]))] := hD
  refine lv_dup hx hb dL_law_3 rfl ?_
  have hFc := va_free (wc := [(q0, .inr (7, [.null, .null, .null, .null, .null, .null, .null, .null]))]) hD hS hA [0] rfl
  refine va_callv (va_runI (As := []) (rest := [.ref q0]) ⟨hx, hb, hml, hown, hts⟩ (c_X5_init l dC dI cI cJ q0 H.size) (cwI 0 hts (mW_G mY_X5_init) rfl rfl rfl (hts _ mN_RX5) (hts _ mM_RL_81) (hts _ mI_X5_init) rfl (by decide +kernel) ⟨Nat.le_of_ble_eq_true rfl, Nat.le_of_ble_eq_true rfl⟩) ⟨fun a U g mk q => ⟨q.1, q.2.1, q.2.2.1, va_K.moved (u := U) (U := U.calling g mk a) (Vm.Alike.refl U.vm) q.2.2.2.1, q.2.2.2.2.1, q.2.2.2.2.2.1.call, va_Nw.same rfl (u := U) rfl q.2.2.2.2.2.2.1, va_Nw.same rfl (u := U) rfl q.2.2.2.2.2.2.2.1, va_Nw.same rfl (u := U) rfl q.2.2.2.2.2.2.2.2.1, va_Nw.same rfl (u := U) rfl q.2.2.2.2.2.2.2.2.2⟩, fun U hU hW => ⟨rfl, by rw [hU], by rw [hU]; exact hP, va_K.moved hW.alike hK, hD.weaken (fun _ _ _ _ => trivial), hC.here hS hU hW (fun q h => hFc q h), hn18.warmM hW, hn25.warmM hW, hn32.warmM hW, hn39.warmM hW⟩⟩ rfl rfl hl.1 rfl (lv_room (Nat.le_of_ble_eq_true rfl)) dL_law_4 ⟨Nat.le_of_ble_eq_true rfl, Nat.le_of_ble_eq_true rfl⟩) hS (fun q _ h => hFc q h) (fun q h => hFc q h) (fun u t H1 locs ht hvm hw hB hz1 hk1 hS => ?_)
  obtain ⟨ad, e0, hP1, hD1⟩ := hB
  rw [ht] at hP1
  obtain ⟨hP, hD⟩ := va_join (wr := []) (w1 := wC ad cI cJ (L_X0_init 33 0 (fun _ => 0)) (fun _ => 0) (fun _ => 0) (fun _ => 0) (fun _ => 0) (fun _ => 0) 0 (fun _ => 0) (fun _ => 0) (fun _ => 0) 0 0 (fun _ => 0) (fun _ => 0) (fun _ => 0) (fun _ => 0) 0 0 0 (fun _ => 0) 0 (fun _ => 0) (fun _ => 0) (fun _ => 0)) hP hD [0] [] rfl rfl (by decide) (by decide) hk1 hFc hP1 hD1
  generalize H1 = H at hP hS ⊢
  have hP : va_P (dC, dI) vwCl (wC ad cI cJ (L_X0_init 33 0 (fun _ => 0)) (fun _ => 0) (fun _ => 0) (fun _ => 0) (fun _ => 0) (fun _ => 0) 0 (fun _ => 0) (fun _ => 0) (fun _ => 0) 0 0 (fun _ => 0) (fun _ => 0) (fun _ => 0) (fun _ => 0) 0 0 0 (fun _ => 0) 0 (fun _ => 0) (fun _ => 0) (fun _ => 0)) H := hP
  have hD : va_D (nA s) (wC ad cI cJ (L_X0_init 33 0 (fun _ => 0)) (fun _ => 0) (fun _ => 0) (fun _ => 0) (fun _ => 0) (fun _ => 0) 0 (fun _ => 0) (fun _ => 0) (fun _ => 0) 0 0 (fun _ => 0) (fun _ => 0) (fun _ => 0) (fun _ => 0) 0 0 0 (fun _ => 0) 0 (fun _ => 0) (fun _ => 0) (fun _ => 0)) := hD
  rw [← e0]
  refine lv_astore_n (lv' := [(1, .ref (ad 0)), (0, .ref b)]) hx hb dL_law_7 rfl hl (by decide) rfl (fun ls hl => ?_)
  refine va_new (ci := 8) (fs := [.int 0, .null, .null, .int 0, .int 0, .null, .null, .null, .null, .null, .null, .null, .int 0, .null, .null, .int 0, .null, .null, .int 0, .null, .int 0, .null, .int 0, .null]) (C := RX6) (T := TX6) (N := 24) hx hb hts iW_X6 tyX6 tyX6_ok hown (hts _ mC_RL_82) (hts _ mA_RX6) (hts _ mN_RX6) hK hP hD hS hA rfl (fun j hj => by rcases (show j = 0 ∨ j = 1 ∨ j = 2 ∨ j = 3 ∨ j = 4 ∨ j = 5 ∨ j = 6 ∨ j = 7 ∨ j = 8 ∨ j = 9 ∨ j = 10 ∨ j = 11 ∨ j = 12 ∨ j = 13 ∨ j = 14 ∨ j = 15 ∨ j = 16 ∨ j = 17 ∨ j = 18 ∨ j = 19 ∨ j = 20 ∨ j = 21 ∨ j = 22 ∨ j = 23 by omega) with rfl | rfl | rfl | rfl | rfl | rfl | rfl | rfl | rfl | rfl | rfl | rfl | rfl | rfl | rfl | rfl | rfl | rfl | rfl | rfl | rfl | rfl | rfl | rfl <;> rfl) (Nat.le_of_ble_eq_true rfl) (Nat.le_of_ble_eq_true rfl) dL_law_8 (fun m0 H hP hD hS => ?_)
  refine lv_dup hx hb dL_law_11 rfl ?_
  have hPc := hP.sub (ws' := [(m0, .inr (8, [.int 0, .null, .null, .int 0, .int 0, .null, .null, .null, .null, .null, .null, .null, .int 0, .null, .null, .int 0, .null, .null, .int 0, .null, .int 0, .null, .int 0, .null]))]) [23] rfl
  have hDc := hD.sub (ws' := [(m0, .inr (8, [.int 0, .null, .null, .int 0, .int 0, .null, .null, .null, .null, .null, .null, .null, .int 0, .null, .null, .int 0, .null, .null, .int 0, .null, .int 0, .null, .int 0, .null]))]) [23] (by decide) rfl
  have hFc := va_free (wc := [(m0, .inr (8, [.int 0, .null, .null, .int 0, .int 0, .null, .null, .null, .null, .null, .null, .null, .int 0, .null, .null, .int 0, .null, .null, .int 0, .null, .int 0, .null, .int 0, .null]))]) hD hS hA [23] rfl
  refine va_callv (va_runI (As := []) (rest := [.ref m0]) ⟨hx, hb, hml, hown, hts⟩ (c_X6_init l dC dI cI cJ m0 H.size) (cwI 0 hts (mW_G mY_X6_init) rfl rfl rfl (hts _ mN_RX6) (hts _ mM_RL_84) (hts _ mI_X6_init) rfl (by decide +kernel) ⟨Nat.le_of_ble_eq_true rfl, Nat.le_of_ble_eq_true rfl⟩) ⟨fun a U g mk q => ⟨q.1, q.2.1, q.2.2.1, va_K.moved (u := U) (U := U.calling g mk a) (Vm.Alike.refl U.vm) q.2.2.2.1, q.2.2.2.2⟩, fun U hU hW => ⟨rfl, by rw [hU], by rw [hU]; exact hPc, va_K.moved hW.alike hK, hDc.weaken (fun _ _ _ _ => trivial)⟩⟩ rfl rfl hl.1 rfl (lv_room (Nat.le_of_ble_eq_true rfl)) dL_law_12 ⟨Nat.le_of_ble_eq_true rfl, Nat.le_of_ble_eq_true rfl⟩) hS (fun q _ h => hFc q h) (fun q h => hFc q h) (fun u t H1 locs ht hvm hw hB hz1 hk1 hS => ?_)
  obtain ⟨q1, q2, q3, q4, q5, q6, q7, q8, q9, q10, q11, q12, q13, q14, q15, q16, hP1, hD1⟩ := hB
  rw [ht] at hP1
  obtain ⟨am, ea⟩ : ∃ am : Nat → Nat, am = fun k => [m0, q1, q2, q3, q4, q5, q6, q7, q8, q9, q10, q11, q12, q13, q14, q15, q16].getD k 0 := ⟨_, rfl⟩
  have e0 : m0 = am 0 := by rw [ea]; rfl
  have e1 : q1 = am 1 := by rw [ea]; rfl
  have e2 : q2 = am 2 := by rw [ea]; rfl
  have e3 : q3 = am 3 := by rw [ea]; rfl
  have e4 : q4 = am 4 := by rw [ea]; rfl
  have e5 : q5 = am 5 := by rw [ea]; rfl
  have e6 : q6 = am 6 := by rw [ea]; rfl
  have e7 : q7 = am 7 := by rw [ea]; rfl
  have e8 : q8 = am 8 := by rw [ea]; rfl
  have e9 : q9 = am 9 := by rw [ea]; rfl
  have e10 : q10 = am 10 := by rw [ea]; rfl
  have e11 : q11 = am 11 := by rw [ea]; rfl
  have e12 : q12 = am 12 := by rw [ea]; rfl
  have e13 : q13 = am 13 := by rw [ea]; rfl
  have e14 : q14 = am 14 := by rw [ea]; rfl
  have e15 : q15 = am 15 := by rw [ea]; rfl
  have e16 : q16 = am 16 := by rw [ea]; rfl
  rw [e0, e1, e2, e3, e4, e5, e6, e7, e8, e9, e10, e11, e12, e13, e14, e15, e16] at hP1 hD1
  have hP1 : va_P (dC, dI) vwCl (wM am cI cJ 0 (L_X6_init 33 0 (fun _ => 0)) (fun _ => 0) 0 0 (fun _ => 0) (fun _ => 0) (fun _ => 0) (fun _ => 0) (fun _ => 0) (fun _ => 0) (fun _ => 0) 0 (fun _ => 0) (fun _ => 0) 0 (fun _ => 0) (fun _ => 0) 0 (fun _ => 0) 0 (fun _ => 0) 0 (fun _ => 0)) H1 := hP1
  rw [e0] at hP hD hFc hk1 hPc hDc
  obtain ⟨hP, hD⟩ := va_join (wr := wC ad cI cJ (L_X0_init 33 0 (fun _ => 0)) (fun _ => 0) (fun _ => 0) (fun _ => 0) (fun _ => 0) (fun _ => 0) 0 (fun _ => 0) (fun _ => 0) (fun _ => 0) 0 0 (fun _ => 0) (fun _ => 0) (fun _ => 0) (fun _ => 0) 0 0 0 (fun _ => 0) 0 (fun _ => 0) (fun _ => 0) (fun _ => 0)) (w1 := wM am cI cJ 0 (L_X6_init 33 0 (fun _ => 0)) (fun _ => 0) 0 0 (fun _ => 0) (fun _ => 0) (fun _ => 0) (fun _ => 0) (fun _ => 0) (fun _ => 0) (fun _ => 0) 0 (fun _ => 0) (fun _ => 0) 0 (fun _ => 0) (fun _ => 0) 0 (fun _ => 0) 0 (fun _ => 0) 0 (fun _ => 0)) hP hD [23] [0, 1, 2, 3, 4, 5, 6, 7, 8, 9, 10, 11, 12, 13, 14, 15, 16, 17, 18, 19, 20, 21, 22] rfl rfl (by decide) (by decide) hk1 hFc hP1 hD1
  generalize H1 = H at hP hS ⊢
  refine lv_astore_n (lv' := [(2, .ref (am 0)), (1, .ref (ad 0)), (0, .ref b)]) hx hb dL_law_15 rfl hl (by decide) (by rw [e0]; rfl) (fun ls hl => ?_)
  refine lv_iconst (v := 1) hx hb dL_law_16 (by decide) ?_
  refine va_newa (atype := .long) (a0 := (1, .inr (.inl (fun _ => 0)))) hx hb (hts _ mB_long) rfl hK hP hD hS hA (fun cA => rfl) (by decide) (by decide) (Nat.le_of_ble_eq_true rfl) (Nat.le_of_ble_eq_true rfl) (Nat.le_of_ble_eq_true rfl) dL_law_17 (fun ou cA H hK1 hP hD hS => ?_)
  have e9 : cJ = cA := Option.some.inj ((hK.2 1 _ rfl).2.symm.trans (hK1.2 2 _ rfl).2)
  subst e9
  refine lv_astore_n (lv' := [(3, .ref ou), (2, .ref (am 0)), (1, .ref (ad 0)), (0, .ref b)]) hx hb dL_law_19 rfl hl (by decide) rfl (fun ls hl => ?_)
  refine lv_iconst (v := 0) hx hb dL_law_20 (by decide) ?_
  refine lv_istore (lv' := [(4, .int (nI (9 * 0))), (3, .ref ou), (2, .ref (am 0)), (1, .ref (ad 0)), (0, .ref b)]) hx hb dL_law_21 hl (by decide) rfl (fun ls hl => ?_)
  obtain ⟨f1, f2, f3, f4, f5, f6, f7, f8⟩ := D_split hD rfl
  have hP5 := hP.sub (ws' := wC ad cI cJ (L_X0_init 33 0 (fun _ => 0)) (fun _ => 0) (fun _ => 0) (fun _ => 0) (fun _ => 0) (fun _ => 0) 0 (fun _ => 0) (fun _ => 0) (fun _ => 0) 0 0 (fun _ => 0) (fun _ => 0) (fun _ => 0) (fun _ => 0) 0 0 0 (fun _ => 0) 0 (fun _ => 0) (fun _ => 0) (fun _ => 0)) [0, 1, 2, 3, 4, 5, 6, 7, 8, 9, 10, 11, 12, 13, 14, 15, 16, 17, 18, 19, 20, 21, 22] rfl
  have hP6 := hP.sub (ws' := wM am cI cJ 0 (L_X6_init 33 0 (fun _ => 0)) (fun _ => 0) 0 0 (fun _ => 0) (fun _ => 0) (fun _ => 0) (fun _ => 0) (fun _ => 0) (fun _ => 0) (fun _ => 0) 0 (fun _ => 0) (fun _ => 0) 0 (fun _ => 0) (fun _ => 0) 0 (fun _ => 0) 0 (fun _ => 0) 0 (fun _ => 0)) [23, 24, 25, 26, 27, 28, 29, 30, 31, 32, 33, 34, 35, 36, 37, 38, 39] rfl
  have hP7 := hP.sub (ws' := [(ou, .inl (cJ, 1, .inr (.inl (fun _ => 0))))]) [40] rfl
  refine W.widen (k := 41 + 6 * 0) (n := 15897 + 36 * 0) (Nat.le_of_ble_eq_true rfl) (Nat.le_of_ble_eq_true rfl) ?_
  have CX : LX dC dI cI cJ ad am ou p l s m #[Value.ref b] c b L xs := ⟨hst, hx, hb, hml, hown, hts, ⟨hX, hbl, hL⟩, hC, hK, f1, f2, f3, f4, f5, f6, f7, f8⟩
  have I : LI dC dI cI cJ ad am ou H := ⟨0, 0, 0, 0, 0, L_X0_init 33 0 (fun _ => 0), fun _ => 0, fun _ => 0, fun _ => 0, fun _ => 0, fun _ => 0, fun _ => 0, fun _ => 0, fun _ => 0, fun _ => 0, fun _ => 0, fun _ => 0, fun _ => 0, 0, fun _ => 0, 0, fun _ => 0, fun _ => 0, fun _ => 0, 0, L_X6_init 33 0 (fun _ => 0), fun _ => 0, fun _ => 0, fun _ => 0, fun _ => 0, fun _ => 0, fun _ => 0, fun _ => 0, fun _ => 0, fun _ => 0, fun _ => 0, fun _ => 0, fun _ => 0, fun _ => 0, 0, fun _ => 0, 0, fun _ => 0, fun _ => 0, rel0, hP5, hP6, hP7⟩
  exact law_loop CX hr hlocks (L + 1) 0 (by omega) (by omega) H _ ls I hS hl
