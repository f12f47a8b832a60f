/-- one of four, by an ORDER -/
def sel4 {α : Type} (o : Int64) (a b c d : α) : α := if o = 0 then a else if o = 1 then b else if o = 2 then c else d
theorem sel4_O {o : Int64} {a b c d a' b' c' d' : Nat} {k1 k2 k3 k4 : List Int32} {A : Nat → Prop} {U : State} {H : Heap} (h1 : stO a a' k1 A U H) (h2 : stO b b' k2 A U H) (h3 : stO c c' k3 A U H) (h4 : stO d d' k4 A U H) : stO (sel4 o a b c d) (sel4 o a' b' c' d') (sel4 o k1 k2 k3 k4) A U H := by
  unfold sel4
  by_cases e1 : o = 0
  · rw [if_pos e1, if_pos e1, if_pos e1]; exact h1
  · rw [if_neg e1, if_neg e1, if_neg e1]
    by_cases e2 : o = 1
    · rw [if_pos e2, if_pos e2, if_pos e2]; exact h2
    · rw [if_neg e2, if_neg e2, if_neg e2]
      by_cases e3 : o = 2
      · rw [if_pos e3, if_pos e3, if_pos e3]; exact h3
      · rw [if_neg e3, if_neg e3, if_neg e3]; exact h4
set_option maxHeartbeats 4000000 in
set_option maxRecDepth 100000 in
theorem c_X5_orderName (l : Launch) (hp : Heap) (o : Int64) (q0 q1 q2 q3 : Nat) : Met l yX5_orderName (mW yX5_orderName cX5_orderName 2 (some (.object "java/lang/String"))) { frames := 0, cells := 0, slots := 0, locals := 0 } (va_Pc [.long o] (fun U => U.heap = hp ∧ vk_R "RegisterRows" 318 "pt" q0 U ∧ vk_R "RegisterRows" 332 "fil" q1 U ∧ vk_R "RegisterRows" 334 "fill" q2 U ∧ vk_R "RegisterRows" 336 "filll" q3 U)) (va_Qr (fun (_ : Unit) => True) (fun _ a t => a = sel4 o q0 q1 q2 q3 ∧ t.heap = hp) (fun q : Nat => hp.size ≤ q)) 0 0 (fun q : Nat => hp.size ≤ q) := by
  refine Met.ofW (cc := cX5_orderName) (maxL := 2) (ret := (some (.object "java/lang/String"))) (by decide) rfl ?_
  intro p e s m args below meth c s₁ B hml hv
  obtain ⟨rfl, hh, r0, r1, r2, r3⟩ := hv
  have hx := B.exec
  have hb := B.bytes
  have hr := B.returns
  have hts := mW_hts (atoms_spec (ws := (mW yX5_orderName cX5_orderName 2 (some (.object "java/lang/String")))) B.pre)
  have hown : s.vm.findClass RX5 = some m.cls := findClass_of_methodNamed B.named
  have hlocks := B.notSynchronized
  subst hh
  have hS : va_S (fun q : Nat => s.heap.size ≤ q) s.heap s.heap [] := va_S.rf
  have hl := lv_entry ([.long o]) (n := 2) (Nat.le_of_ble_eq_true rfl)
  rw [lg_entry_eq]
  generalize (lg_sl ([.long o]) ++ List.replicate (2 - (lg_sl ([.long o])).length) Slot.unset).toArray = ls at hl ⊢
  have hl : lv_has ls 2 [(0, .long o)] := hl
  refine lv_lload_n hx hb dX5_orderName_0 rfl (lv_at hl 0 rfl) ?_
  refine lv_lconst (v := 0) hx hb dX5_orderName_1 (by decide) ?_
  refine W.lcmp hx hb dX5_orderName_2 ?_
  refine lv_if_ne (tgt := 10) hx hb dX5_orderName_3 (by decide) (fun c1 => ?_) (fun c1 => ?_)
  · have c1 : ¬ o = 0 := fun z => c1 (lc_eq.mpr z)
    refine lv_lload_n hx hb dX5_orderName_10 rfl (lv_at hl 0 rfl) ?_
    refine lv_lconst (v := 1) hx hb dX5_orderName_11 (by decide) ?_
    refine W.lcmp hx hb dX5_orderName_12 ?_
    refine lv_if_ne (tgt := 22) hx hb dX5_orderName_13 (by decide) (fun c2 => ?_) (fun c2 => ?_)
    · have c2 : ¬ o = 1 := fun z => c2 (lc_eq.mpr z)
      refine lv_lload_n hx hb dX5_orderName_22 rfl (lv_at hl 0 rfl) ?_
      refine lv_ldc2 hx hb hown (hts _ mK_RX5_184) dX5_orderName_23 ?_
      refine W.lcmp hx hb dX5_orderName_26 ?_
      refine lv_if_ne (tgt := 36) hx hb dX5_orderName_27 (by decide) (fun c3 => ?_) (fun c3 => ?_)
      · have c3 : ¬ o = 2 := fun z => c3 (lc_eq.mpr z)
        refine va_ldcSW hx hb hown r3 dX5_orderName_36 ?_
        exact W.aret (rt := .object "java/lang/String") hx hb hr (Or.inl ⟨_, rfl⟩) (Or.inr ⟨_, rfl⟩) (fun t ht hW => ⟨⟨(), q3, rfl, True.intro, by unfold sel4; rw [if_neg c1, if_neg c2, if_neg c3], ht⟩, hS.F ht⟩) hS.2.2 dX5_orderName_39
      · have c3 : o = 2 := lc_eq.mp c3
        refine va_ldcSW hx hb hown r2 dX5_orderName_30 ?_
        refine lv_goto (tgt := 39) hx hb dX5_orderName_33 (by decide) ?_
        exact W.aret (rt := .object "java/lang/String") hx hb hr (Or.inl ⟨_, rfl⟩) (Or.inr ⟨_, rfl⟩) (fun t ht hW => ⟨⟨(), q2, rfl, True.intro, by unfold sel4; rw [if_neg c1, if_neg c2, if_pos c3], ht⟩, hS.F ht⟩) hS.2.2 dX5_orderName_39
    · have c2 : o = 1 := lc_eq.mp c2
      refine va_ldcSW hx hb hown r1 dX5_orderName_16 ?_
      refine lv_goto (tgt := 39) hx hb dX5_orderName_19 (by decide) ?_
      exact W.aret (rt := .object "java/lang/String") hx hb hr (Or.inl ⟨_, rfl⟩) (Or.inr ⟨_, rfl⟩) (fun t ht hW => ⟨⟨(), q1, rfl, True.intro, by unfold sel4; rw [if_neg c1, if_pos c2], ht⟩, hS.F ht⟩) hS.2.2 dX5_orderName_39
  · have c1 : o = 0 := lc_eq.mp c1
    refine va_ldcSW hx hb hown r0 dX5_orderName_6 ?_
    exact W.aret (rt := .object "java/lang/String") hx hb hr (Or.inl ⟨_, rfl⟩) (Or.inr ⟨_, rfl⟩) (fun t ht hW => ⟨⟨(), q0, rfl, True.intro, by unfold sel4; rw [if_pos c1], ht⟩, hS.F ht⟩) hS.2.2 dX5_orderName_9
theorem q_X5_orderName {p : Program} {l : Launch} {e : Env} {R : Room} {s : State} {m : MethodId} {args : Array Value} {below : List Frame} {meth : Method} {c : Code} {H : Heap} {locs : List Loc} {cells slots : Nat} {Q : State → Prop} {pc : Nat} {ls : Array Slot} {rest : List Value} {cc : ByteArray} {nL idx : Nat} {own : String} {A0 : Nat → Prop} (hx : p.tables.exec = Jvm.exec) (hb : c.code = cc) (hml : c.maxLocals = nL) (hown : s.vm.findClass own = some m.cls) (hts : ∀ w ∈ bigW, w.before args s = true) (hlk : Cond.methodLink own idx yX5_orderName ∈ bigW) (hR : 1 ≤ R.frames ∧ 21 ≤ R.locals) (hf : cells + 0 ≤ R.cells ∧ slots + 0 ≤ R.slots) (hz : ls.size = nL) (hw : (rest.map fun v => v.category).sum ≤ 8) (hS : va_S A0 s.heap H locs) (hd : decode cc pc = .ok (.invokestatic idx, 3)) (hA : ∀ q, s.heap.size ≤ q → A0 q) (o : Int64) (q0 q1 q2 q3 : Nat) (r0 : vk_R "RegisterRows" 318 "pt" q0 s) (r1 : vk_R "RegisterRows" 332 "fil" q1 s) (r2 : vk_R "RegisterRows" 334 "fill" q2 s) (r3 : vk_R "RegisterRows" 336 "filll" q3 s) (k : ∀ locs, va_S A0 s.heap H locs → W p l e R s m args below meth c H locs cells slots Q (F0 m (pc + 3) ls (.ref (sel4 o q0 q1 q2 q3) :: rest))) : W p l e R s m args below meth c H locs cells slots Q (F0 m pc ls (.long o :: rest)) :=
  va_callr (va_runS (As := [.long o]) (rest := rest) ⟨hx, hb, hml, hown, hts⟩ (c_X5_orderName l H o q0 q1 q2 q3) (kS 1 hts hlk mS_X5_orderName mN_RX5 mY_X5_orderName rfl rfl (by decide +kernel) hR) ⟨fun a U g mk q => ⟨q.1, q.2.1, q.2.2.1.same rfl, q.2.2.2.1.same rfl, q.2.2.2.2.1.same rfl, q.2.2.2.2.2.same rfl⟩, fun U hU hW => ⟨rfl, hU, r0.warm hW, r1.warm hW, r2.warm hW, r3.warm hW⟩⟩ rfl rfl hz rfl (lv_room hw) hd hf) hS (fun q h1 h2 => absurd h1 (Nat.not_lt.mpr h2)) (fun q h => hA q (Nat.le_trans hS.1 h)) (fun u ra t H1 locs1 ht hvm hw9 hB hz1 hk1 hS1 => by
    obtain ⟨rfl, hB⟩ := hB
    have e : H1 = H := by rw [← ht]; exact hB
    subst e
    exact k locs1 hS1)

def f_X5_writeFlexible (bs : List Int32) (a1 : Int32) (Bc : Nat → Int64) (Ss : Nat → Int32) (Sm : Int32) : (Nat → Int32) × Int32 := (if (Bc a1.toNatClampNeg) = (0 : Int64) then (Ss, Sm) else (let u4 := f_X4_writeText bs Ss Sm; (let u7 := f_X4_writeLength (Bc a1.toNatClampNeg) u4.1 u4.2; (let u14 := f_X4_writeText (sel4 (Bc (a1 + (1 : Int32)).toNatClampNeg) [112, 116] [102, 105, 108] [102, 105, 108, 108] [102, 105, 108, 108, 108]) u7.1 u7.2; (u14.1, u14.2)))))
def S_X5_writeFlexible (bs : List Int32) (a1 : Int32) (Bc : Nat → Int64) (Ss : Nat → Int32) (Sm : Int32) : Prop := (vp_in a1 928) ∧ (((Bc a1.toNatClampNeg) = (0 : Int64) → (True)) ∧ (¬ (Bc a1.toNatClampNeg) = (0 : Int64) → ((S_X4_writeText bs Ss Sm) ∧ (∀ u4, u4 = f_X4_writeText bs Ss Sm → ((vp_in a1 928) ∧ ((S_X4_writeLength (Bc a1.toNatClampNeg) u4.1 u4.2) ∧ (∀ u7, u7 = f_X4_writeLength (Bc a1.toNatClampNeg) u4.1 u4.2 → ((vp_in (a1 + (1 : Int32)) 928) ∧ ((S_X4_writeText (sel4 (Bc (a1 + (1 : Int32)).toNatClampNeg) [112, 116] [102, 105, 108] [102, 105, 108, 108] [102, 105, 108, 108, 108]) u7.1 u7.2) ∧ (∀ u14, u14 = f_X4_writeText (sel4 (Bc (a1 + (1 : Int32)).toNatClampNeg) [112, 116] [102, 105, 108] [102, 105, 108, 108] [102, 105, 108, 108, 108]) u7.1 u7.2 → (True)))))))))))
set_option maxHeartbeats 4000000 in
set_option maxRecDepth 100000 in
theorem c_X5_writeFlexible (l : Launch) (dC : Nat → ClassId) (dI : Nat → Nat → Nat) (cI cJ : ClassId) (ad : Nat → Nat) (hi : fI 23 ad) (sz : Nat) (Bc : Nat → Int64) (Bl : Nat → Int32) (Pk : Nat → Int32) (Pr : Nat → Int32) (Pl : Nat → Int32) (Pc : Nat → Int64) (Pm : Int32) (Gf : Nat → Int32) (Gt : Nat → Int32) (Gx : Nat → Int32) (Gd : Int32) (Gm : Int32) (Ek : Nat → Int32) (Er : Nat → Int32) (Ea : Nat → Int32) (Ex : Nat → Int32) (Em : Int32) (Eb : Int32) (Et : Int32) (Ss : Nat → Int32) (Sm : Int32) (Wg : Nat → Int64) (Wr : Nat → Int64) (Md : Nat → Int64) (q v : Nat) (bs : List Int32) (a1 : Int32) (hs : S_X5_writeFlexible bs a1 Bc Ss Sm) : Met l yX5_writeFlexible (mW yX5_writeFlexible cX5_writeFlexible 3 none) { frames := 5, cells := 0, slots := 0, locals := 107 } (va_Pc [.ref (ad 0), .ref q, .int a1] (fun U => U.heap.size = sz ∧ va_P (dC, dI) vwCl (wC ad cI cJ Bc Bl Pk Pr Pl Pc Pm Gf Gt Gx Gd Gm Ek Er Ea Ex Em Eb Et Ss Sm Wg Wr Md) U.heap ∧ va_K (dC, dI) vwCl [(cI, .int), (cJ, .long)] U ∧ cxt (fA 23 ad sz) U U.heap ∧ stO q v bs (fA 23 ad sz) U U.heap)) (va_Qv (fun (_ : Unit) => True) (fun _ t => va_P (dC, dI) vwCl (wC ad cI cJ Bc Bl Pk Pr Pl Pc Pm Gf Gt Gx Gd Gm Ek Er Ea Ex Em Eb Et ((f_X5_writeFlexible bs a1 Bc Ss Sm).1) ((f_X5_writeFlexible bs a1 Bc Ss Sm).2) Wg Wr Md) t.heap) (fA 23 ad sz)) 0 0 (fA 23 ad sz) := by
  refine Met.ofW (cc := cX5_writeFlexible) (maxL := 3) (ret := none) (by decide) rfl ?_
  intro p e s m args below meth c s₁ B hml hv
  obtain ⟨rfl, hsz, hP, hK, hC, hO⟩ := hv
  have hx := B.exec
  have hb := B.bytes
  have hr := B.returns
  have hts := mW_hts (atoms_spec (ws := (mW yX5_writeFlexible cX5_writeFlexible 3 none)) B.pre)
  have hown : s.vm.findClass RX5 = some m.cls := findClass_of_methodNamed B.named
  have hlocks := B.notSynchronized
  subst hsz
  have hA : ∀ (n : Nat) (q : Nat), s.heap.size ≤ n → n ≤ q → fA 23 ad s.heap.size q := fun n q h1 h2 => Or.inr (Nat.le_trans h1 h2)
  have hS : va_S (fA 23 ad s.heap.size) s.heap s.heap [] := va_S.rf
  have hA : ∀ q, s.heap.size ≤ q → (fA 23 ad s.heap.size) q := fun q h => Or.inr h
  unfold S_X5_writeFlexible at hs
  have hl := lv_entry ([.ref (ad 0), .ref q, .int a1]) (n := 3) (Nat.le_of_ble_eq_true rfl)
  rw [lg_entry_eq]
  generalize (lg_sl ([.ref (ad 0), .ref q, .int a1]) ++ List.replicate (3 - (lg_sl ([.ref (ad 0), .ref q, .int a1])).length) Slot.unset).toArray = ls at hl ⊢
  have hl : lv_has ls 3 [(0, .ref (ad 0)), (1, .ref q), (2, .int a1)] := hl
  refine W_gen (fun Q9 hQ9 => ?_)
  refine lv_aload_n hx hb dX5_writeFlexible_0 rfl (lv_at hl 0 rfl) ?_
  refine va_get (D := (dC, dI)) (ci := 7) (v := .ref (ad 1)) (C := RX5) (T := TX5) (N := 8) hx hb hts iW_X5 hown hK hP 0 rfl rfl 0 (by decide) (hts _ mF_RX5_10) (fun _ h9 => h9) rfl dX5_writeFlexible_1 ?_
  refine va_get (D := (dC, dI)) (ci := 2) (v := .ref (ad 2)) (C := RX0) (T := TX0) (N := 2) hx hb hts iW_X0 hown hK hP 1 rfl rfl 0 (by decide) (hts _ mF_RX5_99) (fun _ h9 => h9) rfl dX5_writeFlexible_4 ?_
  refine lv_iload_n hx hb dX5_writeFlexible_7 rfl (lv_at hl 2 rfl) ?_
  obtain ⟨h1, hs⟩ := hs
  refine va_lald hx hb hK hP 2 1 rfl rfl h1 dX5_writeFlexible_8 ?_
  refine lv_lconst (v := 0) hx hb dX5_writeFlexible_9 (by decide) ?_
  refine W.lcmp hx hb dX5_writeFlexible_10 ?_
  refine lv_if_eq (tgt := 59) hx hb dX5_writeFlexible_11 (by decide) (fun c2 => ?_) (fun c2 => ?_)
  · have c2 : (Bc a1.toNatClampNeg) = (0 : Int64) := lc_eq.mp c2
    have hs := hs.1 c2
    rw [hQ9]
    have hf : f_X5_writeFlexible bs a1 Bc Ss Sm = (Ss, Sm) := by simp only [f_X5_writeFlexible, if_pos c2]
    exact W.vret hx hb hr (fun t ht hW => ⟨⟨(), rfl, True.intro, by rw [hf]; show va_P (dC, dI) vwCl _ t.heap; rw [ht]; exact hP⟩, hS.F ht⟩) hS.2.2 dX5_writeFlexible_59
  · have c2 : ¬ (Bc a1.toNatClampNeg) = (0 : Int64) := fun z => c2 (lc_eq.mpr z)
    have hs := hs.2 c2
    refine lv_aload_n hx hb dX5_writeFlexible_14 rfl (lv_at hl 0 rfl) ?_
    refine va_get (D := (dC, dI)) (ci := 7) (v := .ref (ad 18)) (C := RX5) (T := TX5) (N := 8) hx hb hts iW_X5 hown hK hP 0 rfl rfl 4 (by decide) (hts _ mF_RX5_40) (fun _ h9 => h9) rfl dX5_writeFlexible_15 ?_
    refine lv_aload_n hx hb dX5_writeFlexible_18 rfl (lv_at hl 1 rfl) ?_
    obtain ⟨h3, hs⟩ := hs
    obtain ⟨u4, hu4⟩ : ∃ z, z = f_X4_writeText bs Ss Sm := ⟨_, rfl⟩
    have hs := hs u4 hu4
    refine q_X4_writeText hx hb hml hown hts mM_RX5_315 ⟨Nat.le_of_ble_eq_true rfl, Nat.le_of_ble_eq_true rfl⟩ ⟨Nat.le_of_ble_eq_true rfl, Nat.le_of_ble_eq_true rfl⟩ hl.1 (Nat.le_of_ble_eq_true rfl) hS dX5_writeFlexible_19 (fun _ h9 => fA_mono hS.1 h9) hi hK hP hC q v bs hO h3 u4 hu4 (fun H locs hP hS => ?_)
    refine lv_aload_n hx hb dX5_writeFlexible_22 rfl (lv_at hl 0 rfl) ?_
    refine va_get (D := (dC, dI)) (ci := 7) (v := .ref (ad 18)) (C := RX5) (T := TX5) (N := 8) hx hb hts iW_X5 hown hK hP 0 rfl rfl 4 (by decide) (hts _ mF_RX5_40) (fun _ h9 => h9) rfl dX5_writeFlexible_23 ?_
    refine lv_aload_n hx hb dX5_writeFlexible_26 rfl (lv_at hl 0 rfl) ?_
    refine va_get (D := (dC, dI)) (ci := 7) (v := .ref (ad 1)) (C := RX5) (T := TX5) (N := 8) hx hb hts iW_X5 hown hK hP 0 rfl rfl 0 (by decide) (hts _ mF_RX5_10) (fun _ h9 => h9) rfl dX5_writeFlexible_27 ?_
    refine va_get (D := (dC, dI)) (ci := 2) (v := .ref (ad 2)) (C := RX0) (T := TX0) (N := 2) hx hb hts iW_X0 hown hK hP 1 rfl rfl 0 (by decide) (hts _ mF_RX5_99) (fun _ h9 => h9) rfl dX5_writeFlexible_30 ?_
    refine lv_iload_n hx hb dX5_writeFlexible_33 rfl (lv_at hl 2 rfl) ?_
    obtain ⟨h5, hs⟩ := hs
    refine va_lald hx hb hK hP 2 1 rfl rfl h5 dX5_writeFlexible_34 ?_
    obtain ⟨h6, hs⟩ := hs
    obtain ⟨u7, hu7⟩ : ∃ z, z = f_X4_writeLength (Bc a1.toNatClampNeg) u4.1 u4.2 := ⟨_, rfl⟩
    have hs := hs u7 hu7
    refine q_X4_writeLength hx hb hml hown hts mM_RX5_304 ⟨Nat.le_of_ble_eq_true rfl, Nat.le_of_ble_eq_true rfl⟩ ⟨Nat.le_of_ble_eq_true rfl, Nat.le_of_ble_eq_true rfl⟩ hl.1 (Nat.le_of_ble_eq_true rfl) hS dX5_writeFlexible_35 (fun _ h9 => fA_mono hS.1 h9) hi hK hP (Bc a1.toNatClampNeg) h6 u7 hu7 (fun H locs hP hS => ?_)
    refine lv_aload_n hx hb dX5_writeFlexible_38 rfl (lv_at hl 0 rfl) ?_
    refine va_get (D := (dC, dI)) (ci := 7) (v := .ref (ad 18)) (C := RX5) (T := TX5) (N := 8) hx hb hts iW_X5 hown hK hP 0 rfl rfl 4 (by decide) (hts _ mF_RX5_40) (fun _ h9 => h9) rfl dX5_writeFlexible_39 ?_
    refine lv_aload_n hx hb dX5_writeFlexible_42 rfl (lv_at hl 0 rfl) ?_
    refine va_get (D := (dC, dI)) (ci := 7) (v := .ref (ad 1)) (C := RX5) (T := TX5) (N := 8) hx hb hts iW_X5 hown hK hP 0 rfl rfl 0 (by decide) (hts _ mF_RX5_10) (fun _ h9 => h9) rfl dX5_writeFlexible_43 ?_
    refine va_get (D := (dC, dI)) (ci := 2) (v := .ref (ad 2)) (C := RX0) (T := TX0) (N := 2) hx hb hts iW_X0 hown hK hP 1 rfl rfl 0 (by decide) (hts _ mF_RX5_99) (fun _ h9 => h9) rfl dX5_writeFlexible_46 ?_
    refine lv_iload_n hx hb dX5_writeFlexible_49 rfl (lv_at hl 2 rfl) ?_
    refine lv_iconst (v := 1) hx hb dX5_writeFlexible_50 (by decide) ?_
    refine lv_iadd hx hb dX5_writeFlexible_51 ?_
    obtain ⟨h8, hs⟩ := hs
    refine va_lald hx hb hK hP 2 1 rfl rfl h8 dX5_writeFlexible_52 ?_
    obtain ⟨q9, vq9, hrq9, hOq9⟩ := hC.txt 1 _ rfl
    obtain ⟨q10, vq10, hrq10, hOq10⟩ := hC.txt 4 _ rfl
    obtain ⟨q11, vq11, hrq11, hOq11⟩ := hC.txt 5 _ rfl
    obtain ⟨q12, vq12, hrq12, hOq12⟩ := hC.txt 6 _ rfl
    refine q_X5_orderName hx hb hml hown hts mM_RX5_328 ⟨Nat.le_of_ble_eq_true rfl, Nat.le_of_ble_eq_true rfl⟩ ⟨Nat.le_of_ble_eq_true rfl, Nat.le_of_ble_eq_true rfl⟩ hl.1 (Nat.le_of_ble_eq_true rfl) hS dX5_writeFlexible_53 hA (Bc (a1 + (1 : Int32)).toNatClampNeg) q9 q10 q11 q12 hrq9 hrq10 hrq11 hrq12 (fun locs hS => ?_)
    obtain ⟨h13, hs⟩ := hs
    obtain ⟨u14, hu14⟩ : ∃ z, z = f_X4_writeText (sel4 (Bc (a1 + (1 : Int32)).toNatClampNeg) [112, 116] [102, 105, 108] [102, 105, 108, 108] [102, 105, 108, 108, 108]) u7.1 u7.2 := ⟨_, rfl⟩
    have hs := hs u14 hu14
    refine q_X4_writeText hx hb hml hown hts mM_RX5_315 ⟨Nat.le_of_ble_eq_true rfl, Nat.le_of_ble_eq_true rfl⟩ ⟨Nat.le_of_ble_eq_true rfl, Nat.le_of_ble_eq_true rfl⟩ hl.1 (Nat.le_of_ble_eq_true rfl) hS dX5_writeFlexible_56 (fun _ h9 => fA_mono hS.1 h9) hi hK hP hC (sel4 (Bc (a1 + (1 : Int32)).toNatClampNeg) q9 q10 q11 q12) (sel4 (Bc (a1 + (1 : Int32)).toNatClampNeg) vq9 vq10 vq11 vq12) (sel4 (Bc (a1 + (1 : Int32)).toNatClampNeg) [112, 116] [102, 105, 108] [102, 105, 108, 108] [102, 105, 108, 108, 108]) (sel4_O hOq9 hOq10 hOq11 hOq12) h13 u14 hu14 (fun H locs hP hS => ?_)
    rw [hQ9]
    have hf : f_X5_writeFlexible bs a1 Bc Ss Sm = (u14.1, u14.2) := by simp only [f_X5_writeFlexible, if_neg c2, ← hu4, ← hu7, ← hu14]
    exact W.vret hx hb hr (fun t ht hW => ⟨⟨(), rfl, True.intro, by rw [hf]; show va_P (dC, dI) vwCl _ t.heap; rw [ht]; exact hP⟩, hS.F ht⟩) hS.2.2 dX5_writeFlexible_59
theorem q_X5_writeFlexible {p : Program} {l : Launch} {e : Env} {R : Room} {s : State} {m : MethodId} {args : Array Value} {below : List Frame} {meth : Method} {c : Code} {H : Heap} {locs : List Loc} {cells slots : Nat} {Q : State → Prop} {pc : Nat} {ls : Array Slot} {rest : List Value} {cc : ByteArray} {nL idx : Nat} {own : String} {A0 : Nat → Prop} {dC : Nat → ClassId} {dI : Nat → Nat → Nat} {cI cJ : ClassId} {ad : Nat → Nat} {Bc : Nat → Int64} {Bl : Nat → Int32} {Pk : Nat → Int32} {Pr : Nat → Int32} {Pl : Nat → Int32} {Pc : Nat → Int64} {Pm : Int32} {Gf : Nat → Int32} {Gt : Nat → Int32} {Gx : Nat → Int32} {Gd : Int32} {Gm : Int32} {Ek : Nat → Int32} {Er : Nat → Int32} {Ea : Nat → Int32} {Ex : Nat → Int32} {Em : Int32} {Eb : Int32} {Et : Int32} {Ss : Nat → Int32} {Sm : Int32} {Wg : Nat → Int64} {Wr : Nat → Int64} {Md : Nat → Int64} (hx : p.tables.exec = Jvm.exec) (hb : c.code = cc) (hml : c.maxLocals = nL) (hown : s.vm.findClass own = some m.cls) (hts : ∀ w ∈ bigW, w.before args s = true) (hlk : Cond.methodLink own idx yX5_writeFlexible ∈ bigW) (hR : 6 ≤ R.frames ∧ 129 ≤ R.locals) (hf : cells + 0 ≤ R.cells ∧ slots + 0 ≤ R.slots) (hz : ls.size = nL) (hw : (rest.map fun v => v.category).sum ≤ 8) (hS : va_S A0 s.heap H locs) (hd : decode cc pc = .ok (.invokevirtual idx, 3)) (hA : ∀ q, fA 23 ad H.size q → A0 q) (hi : fI 23 ad) (hK : va_K (dC, dI) vwCl [(cI, .int), (cJ, .long)] s) (hP : va_P (dC, dI) vwCl (wC ad cI cJ Bc Bl Pk Pr Pl Pc Pm Gf Gt Gx Gd Gm Ek Er Ea Ex Em Eb Et Ss Sm Wg Wr Md) H) (hC : cxt A0 s s.heap) (q v : Nat) (bs : List Int32) (hO : stO q v bs A0 s s.heap) (a1 : Int32) (hs : S_X5_writeFlexible bs a1 Bc Ss Sm)  (u : (Nat → Int32) × Int32) (hu : u = f_X5_writeFlexible bs a1 Bc Ss Sm) (k : ∀ (H1 : Heap) (locs1 : List Loc), va_P (dC, dI) vwCl (wC ad cI cJ Bc Bl Pk Pr Pl Pc Pm Gf Gt Gx Gd Gm Ek Er Ea Ex Em Eb Et u.1 u.2 Wg Wr Md) H1 → va_S A0 s.heap H1 locs1 → W p l e R s m args below meth c H1 locs1 (cells + 0) (slots + 0) Q (F0 m (pc + 3) ls (rest))) : W p l e R s m args below meth c H locs cells slots Q (F0 m pc ls (.int a1 :: .ref q :: .ref (ad 0) :: rest)) := by
  subst hu
  exact va_callv (va_runV (As := [.ref q, .int a1]) (rest := rest) ⟨hx, hb, hml, hown, hts⟩ (c_X5_writeFlexible l dC dI cI cJ ad hi H.size Bc Bl Pk Pr Pl Pc Pm Gf Gt Gx Gd Gm Ek Er Ea Ex Em Eb Et Ss Sm Wg Wr Md q v bs a1 hs) (kV 2 hts hlk mI_X5_writeFlexible mN_RX5 mY_X5_writeFlexible mV_X5_writeFlexible rfl rfl (by decide +kernel) hR) ⟨fun a U g mk q => ⟨q.1, q.2.1, q.2.2.1, va_K.moved (u := U) (U := U.calling g mk a) (Vm.Alike.refl U.vm) q.2.2.2.1, q.2.2.2.2.1.call, q.2.2.2.2.2.call⟩, va_recv hK hP (ci := 7) (q0 := 0) rfl rfl, fun U hU hW => ⟨rfl, by rw [hU], by rw [hU]; exact hP, va_K.moved hW.alike hK, hC.here hS hU hW hA, hO.here hS hU hW hA⟩⟩ rfl rfl hz rfl (lv_room hw) hd hf) hS (fun q _ h => hA q h) (fun q h => hA q h) (fun u t H1 locs1 ht hvm hw9 hB hz1 hk1 hS1 => by
    skip
    exact k H1 locs1 (by rw [← ht]; exact hB) hS1)

def f_X5_writeGlue (a0 : Int32) (Bc : Nat → Int64) (Ss : Nat → Int32) (Sm : Int32) : (Nat → Int32) × Int32 := (let u3 := f_X4_writeLength (Bc a0.toNatClampNeg) Ss Sm; (let u6 := f_X4_writeText ([112, 116]) u3.1 u3.2; (let u9 := f_X5_writeFlexible ([32, 112, 108, 117, 115, 32]) (a0 + (1 : Int32)) Bc u6.1 u6.2; (let u12 := f_X5_writeFlexible ([32, 109, 105, 110, 117, 115, 32]) (a0 + (3 : Int32)) Bc u9.1 u9.2; (u12.1, u12.2)))))
def S_X5_writeGlue (a0 : Int32) (Bc : Nat → Int64) (Ss : Nat → Int32) (Sm : Int32) : Prop := (vp_in a0 928) ∧ ((S_X4_writeLength (Bc a0.toNatClampNeg) Ss Sm) ∧ (∀ u3, u3 = f_X4_writeLength (Bc a0.toNatClampNeg) Ss Sm → ((S_X4_writeText ([112, 116]) u3.1 u3.2) ∧ (∀ u6, u6 = f_X4_writeText ([112, 116]) u3.1 u3.2 → ((S_X5_writeFlexible ([32, 112, 108, 117, 115, 32]) (a0 + (1 : Int32)) Bc u6.1 u6.2) ∧ (∀ u9, u9 = f_X5_writeFlexible ([32, 112, 108, 117, 115, 32]) (a0 + (1 : Int32)) Bc u6.1 u6.2 → ((S_X5_writeFlexible ([32, 109, 105, 110, 117, 115, 32]) (a0 + (3 : Int32)) Bc u9.1 u9.2) ∧ (∀ u12, u12 = f_X5_writeFlexible ([32, 109, 105, 110, 117, 115, 32]) (a0 + (3 : Int32)) Bc u9.1 u9.2 → (True)))))))))
set_option maxHeartbeats 4000000 in
set_option maxRecDepth 100000 in
theorem c_X5_writeGlue (l : Launch) (dC : Nat → ClassId) (dI : Nat → Nat → Nat) (cI cJ : ClassId) (ad : Nat → Nat) (hi : fI 23 ad) (sz : Nat) (Bc : Nat → Int64) (Bl : Nat → Int32) (Pk : Nat → Int32) (Pr : Nat → Int32) (Pl : Nat → Int32) (Pc : Nat → Int64) (Pm : Int32) (Gf : Nat → Int32) (Gt : Nat → Int32) (Gx : Nat → Int32) (Gd : Int32) (Gm : Int32) (Ek : Nat → Int32) (Er : Nat → Int32) (Ea : Nat → Int32) (Ex : Nat → Int32) (Em : Int32) (Eb : Int32) (Et : Int32) (Ss : Nat → Int32) (Sm : Int32) (Wg : Nat → Int64) (Wr : Nat → Int64) (Md : Nat → Int64) (a0 : Int32) (hs : S_X5_writeGlue a0 Bc Ss Sm) : Met l yX5_writeGlue (mW yX5_writeGlue cX5_writeGlue 2 none) { frames := 6, cells := 0, slots := 0, locals := 129 } (va_Pc [.ref (ad 0), .int a0] (fun U => U.heap.size = sz ∧ va_P (dC, dI) vwCl (wC ad cI cJ Bc Bl Pk Pr Pl Pc Pm Gf Gt Gx Gd Gm Ek Er Ea Ex Em Eb Et Ss Sm Wg Wr Md) U.heap ∧ va_K (dC, dI) vwCl [(cI, .int), (cJ, .long)] U ∧ cxt (fA 23 ad sz) U U.heap)) (va_Qv (fun (_ : Unit) => True) (fun _ t => va_P (dC, dI) vwCl (wC ad cI cJ Bc Bl Pk Pr Pl Pc Pm Gf Gt Gx Gd Gm Ek Er Ea Ex Em Eb Et ((f_X5_writeGlue a0 Bc Ss Sm).1) ((f_X5_writeGlue a0 Bc Ss Sm).2) Wg Wr Md) t.heap) (fA 23 ad sz)) 0 0 (fA 23 ad sz) := by
  refine Met.ofW (cc := cX5_writeGlue) (maxL := 2) (ret := none) (by decide) rfl ?_
  intro p e s m args below meth c s₁ B hml hv
  obtain ⟨rfl, hsz, hP, hK, hC⟩ := hv
  have hx := B.exec
  have hb := B.bytes
  have hr := B.returns
  have hts := mW_hts (atoms_spec (ws := (mW yX5_writeGlue cX5_writeGlue 2 none)) B.pre)
  have hown : s.vm.findClass RX5 = some m.cls := findClass_of_methodNamed B.named
  have hlocks := B.notSynchronized
  subst hsz
  have hA : ∀ (n : Nat) (q : Nat), s.heap.size ≤ n → n ≤ q → fA 23 ad s.heap.size q := fun n q h1 h2 => Or.inr (Nat.le_trans h1 h2)
  have hS : va_S (fA 23 ad s.heap.size) s.heap s.heap [] := va_S.rf
  have hA : ∀ q, s.heap.size ≤ q → (fA 23 ad s.heap.size) q := fun q h => Or.inr h
  unfold S_X5_writeGlue at hs
  have hl := lv_entry ([.ref (ad 0), .int a0]) (n := 2) (Nat.le_of_ble_eq_true rfl)
  rw [lg_entry_eq]
  generalize (lg_sl ([.ref (ad 0), .int a0]) ++ List.replicate (2 - (lg_sl ([.ref (ad 0), .int a0])).length) Slot.unset).toArray = ls at hl ⊢
  have hl : lv_has ls 2 [(0, .ref (ad 0)), (1, .int a0)] := hl
  refine W_gen (fun Q9 hQ9 => ?_)
  refine lv_aload_n hx hb dX5_writeGlue_0 rfl (lv_at hl 0 rfl) ?_
  refine va_get (D := (dC, dI)) (ci := 7) (v := .ref (ad 18)) (C := RX5) (T := TX5) (N := 8) hx hb hts iW_X5 hown hK hP 0 rfl rfl 4 (by decide) (hts _ mF_RX5_40) (fun _ h9 => h9) rfl dX5_writeGlue_1 ?_
  refine lv_aload_n hx hb dX5_writeGlue_4 rfl (lv_at hl 0 rfl) ?_
  refine va_get (D := (dC, dI)) (ci := 7) (v := .ref (ad 1)) (C := RX5) (T := TX5) (N := 8) hx hb hts iW_X5 hown hK hP 0 rfl rfl 0 (by decide) (hts _ mF_RX5_10) (fun _ h9 => h9) rfl dX5_writeGlue_5 ?_
  refine va_get (D := (dC, dI)) (ci := 2) (v := .ref (ad 2)) (C := RX0) (T := TX0) (N := 2) hx hb hts iW_X0 hown hK hP 1 rfl rfl 0 (by decide) (hts _ mF_RX5_99) (fun _ h9 => h9) rfl dX5_writeGlue_8 ?_
  refine lv_iload_n hx hb dX5_writeGlue_11 rfl (lv_at hl 1 rfl) ?_
  obtain ⟨h1, hs⟩ := hs
  refine va_lald hx hb hK hP 2 1 rfl rfl h1 dX5_writeGlue_12 ?_
  obtain ⟨h2, hs⟩ := hs
  obtain ⟨u3, hu3⟩ : ∃ z, z = f_X4_writeLength (Bc a0.toNatClampNeg) Ss Sm := ⟨_, rfl⟩
  have hs := hs u3 hu3
  refine q_X4_writeLength hx hb hml hown hts mM_RX5_304 ⟨Nat.le_of_ble_eq_true rfl, Nat.le_of_ble_eq_true rfl⟩ ⟨Nat.le_of_ble_eq_true rfl, Nat.le_of_ble_eq_true rfl⟩ hl.1 (Nat.le_of_ble_eq_true rfl) hS dX5_writeGlue_13 (fun _ h9 => fA_mono hS.1 h9) hi hK hP (Bc a0.toNatClampNeg) h2 u3 hu3 (fun H locs hP hS => ?_)
  refine lv_aload_n hx hb dX5_writeGlue_16 rfl (lv_at hl 0 rfl) ?_
  refine va_get (D := (dC, dI)) (ci := 7) (v := .ref (ad 18)) (C := RX5) (T := TX5) (N := 8) hx hb hts iW_X5 hown hK hP 0 rfl rfl 4 (by decide) (hts _ mF_RX5_40) (fun _ h9 => h9) rfl dX5_writeGlue_17 ?_
  obtain ⟨q4, vq4, hrq4, hOq4⟩ := hC.txt 1 _ rfl
  refine va_ldcSW hx hb hown hrq4 dX5_writeGlue_20 ?_
  obtain ⟨h5, hs⟩ := hs
  obtain ⟨u6, hu6⟩ : ∃ z, z = f_X4_writeText ([112, 116]) u3.1 u3.2 := ⟨_, rfl⟩
  have hs := hs u6 hu6
  refine q_X4_writeText hx hb hml hown hts mM_RX5_315 ⟨Nat.le_of_ble_eq_true rfl, Nat.le_of_ble_eq_true rfl⟩ ⟨Nat.le_of_ble_eq_true rfl, Nat.le_of_ble_eq_true rfl⟩ hl.1 (Nat.le_of_ble_eq_true rfl) hS dX5_writeGlue_23 (fun _ h9 => fA_mono hS.1 h9) hi hK hP hC q4 vq4 ([112, 116]) hOq4 h5 u6 hu6 (fun H locs hP hS => ?_)
  refine lv_aload_n hx hb dX5_writeGlue_26 rfl (lv_at hl 0 rfl) ?_
  obtain ⟨q7, vq7, hrq7, hOq7⟩ := hC.txt 2 _ rfl
  refine va_ldcSW hx hb hown hrq7 dX5_writeGlue_27 ?_
  refine lv_iload_n hx hb dX5_writeGlue_30 rfl (lv_at hl 1 rfl) ?_
  refine lv_iconst (v := 1) hx hb dX5_writeGlue_31 (by decide) ?_
  refine lv_iadd hx hb dX5_writeGlue_32 ?_
  obtain ⟨h8, hs⟩ := hs
  obtain ⟨u9, hu9⟩ : ∃ z, z = f_X5_writeFlexible ([32, 112, 108, 117, 115, 32]) (a0 + (1 : Int32)) Bc u6.1 u6.2 := ⟨_, rfl⟩
  have hs := hs u9 hu9
  refine q_X5_writeFlexible hx hb hml hown hts mM_RX5_322 ⟨Nat.le_of_ble_eq_true rfl, Nat.le_of_ble_eq_true rfl⟩ ⟨Nat.le_of_ble_eq_true rfl, Nat.le_of_ble_eq_true rfl⟩ hl.1 (Nat.le_of_ble_eq_true rfl) hS dX5_writeGlue_33 (fun _ h9 => fA_mono hS.1 h9) hi hK hP hC q7 vq7 ([32, 112, 108, 117, 115, 32]) hOq7 (a0 + (1 : Int32)) h8 u9 hu9 (fun H locs hP hS => ?_)
  refine lv_aload_n hx hb dX5_writeGlue_36 rfl (lv_at hl 0 rfl) ?_
  obtain ⟨q10, vq10, hrq10, hOq10⟩ := hC.txt 3 _ rfl
  refine va_ldcSW hx hb hown hrq10 dX5_writeGlue_37 ?_
  refine lv_iload_n hx hb dX5_writeGlue_40 rfl (lv_at hl 1 rfl) ?_
  refine lv_iconst (v := 3) hx hb dX5_writeGlue_41 (by decide) ?_
  refine lv_iadd hx hb dX5_writeGlue_42 ?_
  obtain ⟨h11, hs⟩ := hs
  obtain ⟨u12, hu12⟩ : ∃ z, z = f_X5_writeFlexible ([32, 109, 105, 110, 117, 115, 32]) (a0 + (3 : Int32)) Bc u9.1 u9.2 := ⟨_, rfl⟩
  have hs := hs u12 hu12
  refine q_X5_writeFlexible hx hb hml hown hts mM_RX5_322 ⟨Nat.le_of_ble_eq_true rfl, Nat.le_of_ble_eq_true rfl⟩ ⟨Nat.le_of_ble_eq_true rfl, Nat.le_of_ble_eq_true rfl⟩ hl.1 (Nat.le_of_ble_eq_true rfl) hS dX5_writeGlue_43 (fun _ h9 => fA_mono hS.1 h9) hi hK hP hC q10 vq10 ([32, 109, 105, 110, 117, 115, 32]) hOq10 (a0 + (3 : Int32)) h11 u12 hu12 (fun H locs hP hS => ?_)
  rw [hQ9]
  have hf : f_X5_writeGlue a0 Bc Ss Sm = (u12.1, u12.2) := by simp only [f_X5_writeGlue, ← hu3, ← hu6, ← hu9, ← hu12]
  exact W.vret hx hb hr (fun t ht hW => ⟨⟨(), rfl, True.intro, by rw [hf]; show va_P (dC, dI) vwCl _ t.heap; rw [ht]; exact hP⟩, hS.F ht⟩) hS.2.2 dX5_writeGlue_46
theorem q_X5_writeGlue {p : Program} {l : Launch} {e : Env} {R : Room} {s : State} {m : MethodId} {args : Array Value} {below : List Frame} {meth : Method} {c : Code} {H : Heap} {locs : List Loc} {cells slots : Nat} {Q : State → Prop} {pc : Nat} {ls : Array Slot} {rest : List Value} {cc : ByteArray} {nL idx : Nat} {own : String} {A0 : Nat → Prop} {dC : Nat → ClassId} {dI : Nat → Nat → Nat} {cI cJ : ClassId} {ad : Nat → Nat} {Bc : Nat → Int64} {Bl : Nat → Int32} {Pk : Nat → Int32} {Pr : Nat → Int32} {Pl : Nat → Int32} {Pc : Nat → Int64} {Pm : Int32} {Gf : Nat → Int32} {Gt : Nat → Int32} {Gx : Nat → Int32} {Gd : Int32} {Gm : Int32} {Ek : Nat → Int32} {Er : Nat → Int32} {Ea : Nat → Int32} {Ex : Nat → Int32} {Em : Int32} {Eb : Int32} {Et : Int32} {Ss : Nat → Int32} {Sm : Int32} {Wg : Nat → Int64} {Wr : Nat → Int64} {Md : Nat → Int64} (hx : p.tables.exec = Jvm.exec) (hb : c.code = cc) (hml : c.maxLocals = nL) (hown : s.vm.findClass own = some m.cls) (hts : ∀ w ∈ bigW, w.before args s = true) (hlk : Cond.methodLink own idx yX5_writeGlue ∈ bigW) (hR : 7 ≤ R.frames ∧ 150 ≤ R.locals) (hf : cells + 0 ≤ R.cells ∧ slots + 0 ≤ R.slots) (hz : ls.size = nL) (hw : (rest.map fun v => v.category).sum ≤ 8) (hS : va_S A0 s.heap H locs) (hd : decode cc pc = .ok (.invokevirtual idx, 3)) (hA : ∀ q, fA 23 ad H.size q → A0 q) (hi : fI 23 ad) (hK : va_K (dC, dI) vwCl [(cI, .int), (cJ, .long)] s) (hP : va_P (dC, dI) vwCl (wC ad cI cJ Bc Bl Pk Pr Pl Pc Pm Gf Gt Gx Gd Gm Ek Er Ea Ex Em Eb Et Ss Sm Wg Wr Md) H) (hC : cxt A0 s s.heap) (a0 : Int32) (hs : S_X5_writeGlue a0 Bc Ss Sm)  (u : (Nat → Int32) × Int32) (hu : u = f_X5_writeGlue a0 Bc Ss Sm) (k : ∀ (H1 : Heap) (locs1 : List Loc), va_P (dC, dI) vwCl (wC ad cI cJ Bc Bl Pk Pr Pl Pc Pm Gf Gt Gx Gd Gm Ek Er Ea Ex Em Eb Et u.1 u.2 Wg Wr Md) H1 → va_S A0 s.heap H1 locs1 → W p l e R s m args below meth c H1 locs1 (cells + 0) (slots + 0) Q (F0 m (pc + 3) ls (rest))) : W p l e R s m args below meth c H locs cells slots Q (F0 m pc ls (.int a0 :: .ref (ad 0) :: rest)) := by
  subst hu
  exact va_callv (va_runV (As := [.int a0]) (rest := rest) ⟨hx, hb, hml, hown, hts⟩ (c_X5_writeGlue l dC dI cI cJ ad hi H.size Bc Bl Pk Pr Pl Pc Pm Gf Gt Gx Gd Gm Ek Er Ea Ex Em Eb Et Ss Sm Wg Wr Md a0 hs) (kV 1 hts hlk mI_X5_writeGlue mN_RX5 mY_X5_writeGlue mV_X5_writeGlue rfl rfl (by decide +kernel) hR) ⟨fun a U g mk q => ⟨q.1, q.2.1, q.2.2.1, va_K.moved (u := U) (U := U.calling g mk a) (Vm.Alike.refl U.vm) q.2.2.2.1, q.2.2.2.2.call⟩, va_recv hK hP (ci := 7) (q0 := 0) rfl rfl, fun U hU hW => ⟨rfl, by rw [hU], by rw [hU]; exact hP, va_K.moved hW.alike hK, hC.here hS hU hW hA⟩⟩ rfl rfl hz rfl (lv_room hw) hd hf) hS (fun q _ h => hA q h) (fun q h => hA q h) (fun u t H1 locs1 ht hvm hw9 hB hz1 hk1 hS1 => by
    skip
    exact k H1 locs1 (by rw [← ht]; exact hB) hS1)

def f_X5_writeRegister (a0 : Int32) (a1 : Int32) (Bc : Nat → Int64) (Ss : Nat → Int32) (Sm : Int32) : (Nat → Int32) × Int32 := (if a0 = 0 then (let u22 := f_X4_writeNumber (Bc a1.toNatClampNeg) Ss Sm; (u22.1, u22.2)) else (if a0 = (1 : Int32) then (let u19 := f_X4_writeLength (Bc a1.toNatClampNeg) Ss Sm; (u19.1, u19.2)) else (if a0 = (2 : Int32) then (let u16 := f_X5_writeGlue a1 Bc Ss Sm; (u16.1, u16.2)) else (if a0 = (3 : Int32) then (let u14 := f_X5_writeRow a1 Bc Ss Sm; (u14.1, u14.2)) else (if (Bc a1.toNatClampNeg) = (-1 : Int64) then (let u12 := f_X4_writeText ([118, 111, 105, 100]) Ss Sm; (u12.1, u12.2)) else (let u9 := f_X4_writeNumber (Bc a1.toNatClampNeg) Ss Sm; (u9.1, u9.2)))))))
def S_X5_writeRegister (a0 : Int32) (a1 : Int32) (Bc : Nat → Int64) (Ss : Nat → Int32) (Sm : Int32) : Prop := (a0 = 0 → ((vp_in a1 928) ∧ ((S_X4_writeNumber (Bc a1.toNatClampNeg) Ss Sm) ∧ (∀ u22, u22 = f_X4_writeNumber (Bc a1.toNatClampNeg) Ss Sm → (True))))) ∧ (¬ a0 = 0 → ((a0 = (1 : Int32) → ((vp_in a1 928) ∧ ((S_X4_writeLength (Bc a1.toNatClampNeg) Ss Sm) ∧ (∀ u19, u19 = f_X4_writeLength (Bc a1.toNatClampNeg) Ss Sm → (True))))) ∧ (¬ a0 = (1 : Int32) → ((a0 = (2 : Int32) → ((S_X5_writeGlue a1 Bc Ss Sm) ∧ (∀ u16, u16 = f_X5_writeGlue a1 Bc Ss Sm → (True)))) ∧ (¬ a0 = (2 : Int32) → ((a0 = (3 : Int32) → ((S_X5_writeRow a1 Bc Ss Sm) ∧ (∀ u14, u14 = f_X5_writeRow a1 Bc Ss Sm → (True)))) ∧ (¬ a0 = (3 : Int32) → ((vp_in a1 928) ∧ (((Bc a1.toNatClampNeg) = (-1 : Int64) → ((S_X4_writeText ([118, 111, 105, 100]) Ss Sm) ∧ (∀ u12, u12 = f_X4_writeText ([118, 111, 105, 100]) Ss Sm → (True)))) ∧ (¬ (Bc a1.toNatClampNeg) = (-1 : Int64) → ((vp_in a1 928) ∧ ((S_X4_writeNumber (Bc a1.toNatClampNeg) Ss Sm) ∧ (∀ u9, u9 = f_X4_writeNumber (Bc a1.toNatClampNeg) Ss Sm → (True))))))))))))))
set_option maxHeartbeats 4000000 in
set_option maxRecDepth 100000 in
theorem c_X5_writeRegister (l : Launch) (dC : Nat → ClassId) (dI : Nat → Nat → Nat) (cI cJ : ClassId) (ad : Nat → Nat) (hi : fI 23 ad) (sz : Nat) (Bc : Nat → Int64) (Bl : Nat → Int32) (Pk : Nat → Int32) (Pr : Nat → Int32) (Pl : Nat → Int32) (Pc : Nat → Int64) (Pm : Int32) (Gf : Nat → Int32) (Gt : Nat → Int32) (Gx : Nat → Int32) (Gd : Int32) (Gm : Int32) (Ek : Nat → Int32) (Er : Nat → Int32) (Ea : Nat → Int32) (Ex : Nat → Int32) (Em : Int32) (Eb : Int32) (Et : Int32) (Ss : Nat → Int32) (Sm : Int32) (Wg : Nat → Int64) (Wr : Nat → Int64) (Md : Nat → Int64) (a0 : Int32) (a1 : Int32) (hs : S_X5_writeRegister a0 a1 Bc Ss Sm) : Met l yX5_writeRegister (mW yX5_writeRegister cX5_writeRegister 3 none) { frames := 7, cells := 0, slots := 0, locals := 150 } (va_Pc [.ref (ad 0), .int a0, .int a1] (fun U => U.heap.size = sz ∧ va_P (dC, dI) vwCl (wC ad cI cJ Bc Bl Pk Pr Pl Pc Pm Gf Gt Gx Gd Gm Ek Er Ea Ex Em Eb Et Ss Sm Wg Wr Md) U.heap ∧ va_K (dC, dI) vwCl [(cI, .int), (cJ, .long)] U ∧ cxt (fA 23 ad sz) U U.heap)) (va_Qv (fun (_ : Unit) => True) (fun _ t => va_P (dC, dI) vwCl (wC ad cI cJ Bc Bl Pk Pr Pl Pc Pm Gf Gt Gx Gd Gm Ek Er Ea Ex Em Eb Et ((f_X5_writeRegister a0 a1 Bc Ss Sm).1) ((f_X5_writeRegister a0 a1 Bc Ss Sm).2) Wg Wr Md) t.heap) (fA 23 ad sz)) 0 0 (fA 23 ad sz) := by
  refine Met.ofW (cc := cX5_writeRegister) (maxL := 3) (ret := none) (by decide) rfl ?_
  intro p e s m args below meth c s₁ B hml hv
  obtain ⟨rfl, hsz, hP, hK, hC⟩ := hv
  have hx := B.exec
  have hb := B.bytes
  have hr := B.returns
  have hts := mW_hts (atoms_spec (ws := (mW yX5_writeRegister cX5_writeRegister 3 none)) B.pre)
  have hown : s.vm.findClass RX5 = some m.cls := findClass_of_methodNamed B.named
  have hlocks := B.notSynchronized
  subst hsz
  have hA : ∀ (n : Nat) (q : Nat), s.heap.size ≤ n → n ≤ q → fA 23 ad s.heap.size q := fun n q h1 h2 => Or.inr (Nat.le_trans h1 h2)
  have hS : va_S (fA 23 ad s.heap.size) s.heap s.heap [] := va_S.rf
  have hA : ∀ q, s.heap.size ≤ q → (fA 23 ad s.heap.size) q := fun q h => Or.inr h
  unfold S_X5_writeRegister at hs
  have hl := lv_entry ([.ref (ad 0), .int a0, .int a1]) (n := 3) (Nat.le_of_ble_eq_true rfl)
  rw [lg_entry_eq]
  generalize (lg_sl ([.ref (ad 0), .int a0, .int a1]) ++ List.replicate (3 - (lg_sl ([.ref (ad 0), .int a0, .int a1])).length) Slot.unset).toArray = ls at hl ⊢
  have hl : lv_has ls 3 [(0, .ref (ad 0)), (1, .int a0), (2, .int a1)] := hl
  refine W_gen (fun Q9 hQ9 => ?_)
  refine lv_iload_n hx hb dX5_writeRegister_0 rfl (lv_at hl 1 rfl) ?_
  refine lv_if_ne (tgt := 23) hx hb dX5_writeRegister_1 (by decide) (fun c1 => ?_) (fun c1 => ?_)
  · have hs := hs.2 c1
    refine lv_iload_n hx hb dX5_writeRegister_23 rfl (lv_at hl 1 rfl) ?_
    refine lv_iconst (v := 1) hx hb dX5_writeRegister_24 (by decide) ?_
    refine lv_icmp_ne (tgt := 47) hx hb dX5_writeRegister_25 (by decide) (fun c2 => ?_) (fun c2 => ?_)
    · have hs := hs.2 c2
      refine lv_iload_n hx hb dX5_writeRegister_47 rfl (lv_at hl 1 rfl) ?_
      refine lv_iconst (v := 2) hx hb dX5_writeRegister_48 (by decide) ?_
      refine lv_icmp_ne (tgt := 60) hx hb dX5_writeRegister_49 (by decide) (fun c3 => ?_) (fun c3 => ?_)
      · have hs := hs.2 c3
        refine lv_iload_n hx hb dX5_writeRegister_60 rfl (lv_at hl 1 rfl) ?_
        refine lv_iconst (v := 3) hx hb dX5_writeRegister_61 (by decide) ?_
        refine lv_icmp_ne (tgt := 73) hx hb dX5_writeRegister_62 (by decide) (fun c4 => ?_) (fun c4 => ?_)
        · have hs := hs.2 c4
          refine lv_aload_n hx hb dX5_writeRegister_73 rfl (lv_at hl 0 rfl) ?_
          refine va_get (D := (dC, dI)) (ci := 7) (v := .ref (ad 1)) (C := RX5) (T := TX5) (N := 8) hx hb hts iW_X5 hown hK hP 0 rfl rfl 0 (by decide) (hts _ mF_RX5_10) (fun _ h9 => h9) rfl dX5_writeRegister_74 ?_
          refine va_get (D := (dC, dI)) (ci := 2) (v := .ref (ad 2)) (C := RX0) (T := TX0) (N := 2) hx hb hts iW_X0 hown hK hP 1 rfl rfl 0 (by decide) (hts _ mF_RX5_99) (fun _ h9 => h9) rfl dX5_writeRegister_77 ?_
          refine lv_iload_n hx hb dX5_writeRegister_80 rfl (lv_at hl 2 rfl) ?_
          obtain ⟨h5, hs⟩ := hs
          refine va_lald hx hb hK hP 2 1 rfl rfl h5 dX5_writeRegister_81 ?_
          refine lv_ldc2 hx hb hown (hts _ mK_RX5_81) dX5_writeRegister_82 ?_
          refine W.lcmp hx hb dX5_writeRegister_85 ?_
          refine lv_if_ne (tgt := 102) hx hb dX5_writeRegister_86 (by decide) (fun c6 => ?_) (fun c6 => ?_)
          · have c6 : ¬ (Bc a1.toNatClampNeg) = (-1 : Int64) := fun z => c6 (lc_eq.mpr z)
            have hs := hs.2 c6
            refine lv_aload_n hx hb dX5_writeRegister_102 rfl (lv_at hl 0 rfl) ?_
            refine va_get (D := (dC, dI)) (ci := 7) (v := .ref (ad 18)) (C := RX5) (T := TX5) (N := 8) hx hb hts iW_X5 hown hK hP 0 rfl rfl 4 (by decide) (hts _ mF_RX5_40) (fun _ h9 => h9) rfl dX5_writeRegister_103 ?_
            refine lv_aload_n hx hb dX5_writeRegister_106 rfl (lv_at hl 0 rfl) ?_
            refine va_get (D := (dC, dI)) (ci := 7) (v := .ref (ad 1)) (C := RX5) (T := TX5) (N := 8) hx hb hts iW_X5 hown hK hP 0 rfl rfl 0 (by decide) (hts _ mF_RX5_10) (fun _ h9 => h9) rfl dX5_writeRegister_107 ?_
            refine va_get (D := (dC, dI)) (ci := 2) (v := .ref (ad 2)) (C := RX0) (T := TX0) (N := 2) hx hb hts iW_X0 hown hK hP 1 rfl rfl 0 (by decide) (hts _ mF_RX5_99) (fun _ h9 => h9) rfl dX5_writeRegister_110 ?_
            refine lv_iload_n hx hb dX5_writeRegister_113 rfl (lv_at hl 2 rfl) ?_
            obtain ⟨h7, hs⟩ := hs
            refine va_lald hx hb hK hP 2 1 rfl rfl h7 dX5_writeRegister_114 ?_
            obtain ⟨h8, hs⟩ := hs
            obtain ⟨u9, hu9⟩ : ∃ z, z = f_X4_writeNumber (Bc a1.toNatClampNeg) Ss Sm := ⟨_, rfl⟩
            have hs := hs u9 hu9
            refine q_X4_writeNumber hx hb hml hown hts mM_RX5_301 ⟨Nat.le_of_ble_eq_true rfl, Nat.le_of_ble_eq_true rfl⟩ ⟨Nat.le_of_ble_eq_true rfl, Nat.le_of_ble_eq_true rfl⟩ hl.1 (Nat.le_of_ble_eq_true rfl) hS dX5_writeRegister_115 (fun _ h9 => fA_mono hS.1 h9) hi hK hP (Bc a1.toNatClampNeg) h8 u9 hu9 (fun H locs hP hS => ?_)
            rw [hQ9]
            have hf : f_X5_writeRegister a0 a1 Bc Ss Sm = (u9.1, u9.2) := by simp only [f_X5_writeRegister, if_neg c1, if_neg c2, if_neg c3, if_neg c4, if_neg c6, ← hu9]
            exact W.vret hx hb hr (fun t ht hW => ⟨⟨(), rfl, True.intro, by rw [hf]; show va_P (dC, dI) vwCl _ t.heap; rw [ht]; exact hP⟩, hS.F ht⟩) hS.2.2 dX5_writeRegister_118
          · have c6 : (Bc a1.toNatClampNeg) = (-1 : Int64) := lc_eq.mp c6
            have hs := hs.1 c6
            refine lv_aload_n hx hb dX5_writeRegister_89 rfl (lv_at hl 0 rfl) ?_
            refine va_get (D := (dC, dI)) (ci := 7) (v := .ref (ad 18)) (C := RX5) (T := TX5) (N := 8) hx hb hts iW_X5 hown hK hP 0 rfl rfl 4 (by decide) (hts _ mF_RX5_40) (fun _ h9 => h9) rfl dX5_writeRegister_90 ?_
            obtain ⟨q10, vq10, hrq10, hOq10⟩ := hC.txt 0 _ rfl
            refine va_ldcSW hx hb hown hrq10 dX5_writeRegister_93 ?_
            obtain ⟨h11, hs⟩ := hs
            obtain ⟨u12, hu12⟩ : ∃ z, z = f_X4_writeText ([118, 111, 105, 100]) Ss Sm := ⟨_, rfl⟩
            have hs := hs u12 hu12
            refine q_X4_writeText hx hb hml hown hts mM_RX5_315 ⟨Nat.le_of_ble_eq_true rfl, Nat.le_of_ble_eq_true rfl⟩ ⟨Nat.le_of_ble_eq_true rfl, Nat.le_of_ble_eq_true rfl⟩ hl.1 (Nat.le_of_ble_eq_true rfl) hS dX5_writeRegister_96 (fun _ h9 => fA_mono hS.1 h9) hi hK hP hC q10 vq10 ([118, 111, 105, 100]) hOq10 h11 u12 hu12 (fun H locs hP hS => ?_)
            refine lv_goto (tgt := 118) hx hb dX5_writeRegister_99 (by decide) ?_
            rw [hQ9]
            have hf : f_X5_writeRegister a0 a1 Bc Ss Sm = (u12.1, u12.2) := by simp only [f_X5_writeRegister, if_neg c1, if_neg c2, if_neg c3, if_neg c4, if_pos c6, ← hu12]
            exact W.vret hx hb hr (fun t ht hW => ⟨⟨(), rfl, True.intro, by rw [hf]; show va_P (dC, dI) vwCl _ t.heap; rw [ht]; exact hP⟩, hS.F ht⟩) hS.2.2 dX5_writeRegister_118
        · have hs := hs.1 c4
          refine lv_aload_n hx hb dX5_writeRegister_65 rfl (lv_at hl 0 rfl) ?_
          refine lv_iload_n hx hb dX5_writeRegister_66 rfl (lv_at hl 2 rfl) ?_
          obtain ⟨h13, hs⟩ := hs
          obtain ⟨u14, hu14⟩ : ∃ z, z = f_X5_writeRow a1 Bc Ss Sm := ⟨_, rfl⟩
          have hs := hs u14 hu14
          refine q_X5_writeRow hx hb hml hown hts mM_RX5_310 ⟨Nat.le_of_ble_eq_true rfl, Nat.le_of_ble_eq_true rfl⟩ ⟨Nat.le_of_ble_eq_true rfl, Nat.le_of_ble_eq_true rfl⟩ hl.1 (Nat.le_of_ble_eq_true rfl) hS dX5_writeRegister_67 (fun _ h9 => fA_mono hS.1 h9) hi hK hP a1 h13 u14 hu14 (fun H locs hP hS => ?_)
          refine lv_goto (tgt := 118) hx hb dX5_writeRegister_70 (by decide) ?_
          rw [hQ9]
          have hf : f_X5_writeRegister a0 a1 Bc Ss Sm = (u14.1, u14.2) := by simp only [f_X5_writeRegister, if_neg c1, if_neg c2, if_neg c3, if_pos c4, ← hu14]
          exact W.vret hx hb hr (fun t ht hW => ⟨⟨(), rfl, True.intro, by rw [hf]; show va_P (dC, dI) vwCl _ t.heap; rw [ht]; exact hP⟩, hS.F ht⟩) hS.2.2 dX5_writeRegister_118
      · have hs := hs.1 c3
        refine lv_aload_n hx hb dX5_writeRegister_52 rfl (lv_at hl 0 rfl) ?_
        refine lv_iload_n hx hb dX5_writeRegister_53 rfl (lv_at hl 2 rfl) ?_
        obtain ⟨h15, hs⟩ := hs
        obtain ⟨u16, hu16⟩ : ∃ z, z = f_X5_writeGlue a1 Bc Ss Sm := ⟨_, rfl⟩
        have hs := hs u16 hu16
        refine q_X5_writeGlue hx hb hml hown hts mM_RX5_307 ⟨Nat.le_of_ble_eq_true rfl, Nat.le_of_ble_eq_true rfl⟩ ⟨Nat.le_of_ble_eq_true rfl, Nat.le_of_ble_eq_true rfl⟩ hl.1 (Nat.le_of_ble_eq_true rfl) hS dX5_writeRegister_54 (fun _ h9 => fA_mono hS.1 h9) hi hK hP hC a1 h15 u16 hu16 (fun H locs hP hS => ?_)
        refine lv_goto (tgt := 118) hx hb dX5_writeRegister_57 (by decide) ?_
        rw [hQ9]
        have hf : f_X5_writeRegister a0 a1 Bc Ss Sm = (u16.1, u16.2) := by simp only [f_X5_writeRegister, if_neg c1, if_neg c2, if_pos c3, ← hu16]
        exact W.vret hx hb hr (fun t ht hW => ⟨⟨(), rfl, True.intro, by rw [hf]; show va_P (dC, dI) vwCl _ t.heap; rw [ht]; exact hP⟩, hS.F ht⟩) hS.2.2 dX5_writeRegister_118
    · have hs := hs.1 c2
      refine lv_aload_n hx hb dX5_writeRegister_28 rfl (lv_at hl 0 rfl) ?_
      refine va_get (D := (dC, dI)) (ci := 7) (v := .ref (ad 18)) (C := RX5) (T := TX5) (N := 8) hx hb hts iW_X5 hown hK hP 0 rfl rfl 4 (by decide) (hts _ mF_RX5_40) (fun _ h9 => h9) rfl dX5_writeRegister_29 ?_
      refine lv_aload_n hx hb dX5_writeRegister_32 rfl (lv_at hl 0 rfl) ?_
      refine va_get (D := (dC, dI)) (ci := 7) (v := .ref (ad 1)) (C := RX5) (T := TX5) (N := 8) hx hb hts iW_X5 hown hK hP 0 rfl rfl 0 (by decide) (hts _ mF_RX5_10) (fun _ h9 => h9) rfl dX5_writeRegister_33 ?_
      refine va_get (D := (dC, dI)) (ci := 2) (v := .ref (ad 2)) (C := RX0) (T := TX0) (N := 2) hx hb hts iW_X0 hown hK hP 1 rfl rfl 0 (by decide) (hts _ mF_RX5_99) (fun _ h9 => h9) rfl dX5_writeRegister_36 ?_
      refine lv_iload_n hx hb dX5_writeRegister_39 rfl (lv_at hl 2 rfl) ?_
      obtain ⟨h17, hs⟩ := hs
      refine va_lald hx hb hK hP 2 1 rfl rfl h17 dX5_writeRegister_40 ?_
      obtain ⟨h18, hs⟩ := hs
      obtain ⟨u19, hu19⟩ : ∃ z, z = f_X4_writeLength (Bc a1.toNatClampNeg) Ss Sm := ⟨_, rfl⟩
      have hs := hs u19 hu19
      refine q_X4_writeLength hx hb hml hown hts mM_RX5_304 ⟨Nat.le_of_ble_eq_true rfl, Nat.le_of_ble_eq_true rfl⟩ ⟨Nat.le_of_ble_eq_true rfl, Nat.le_of_ble_eq_true rfl⟩ hl.1 (Nat.le_of_ble_eq_true rfl) hS dX5_writeRegister_41 (fun _ h9 => fA_mono hS.1 h9) hi hK hP (Bc a1.toNatClampNeg) h18 u19 hu19 (fun H locs hP hS => ?_)
      refine lv_goto (tgt := 118) hx hb dX5_writeRegister_44 (by decide) ?_
      rw [hQ9]
      have hf : f_X5_writeRegister a0 a1 Bc Ss Sm = (u19.1, u19.2) := by simp only [f_X5_writeRegister, if_neg c1, if_pos c2, ← hu19]
      exact W.vret hx hb hr (fun t ht hW => ⟨⟨(), rfl, True.intro, by rw [hf]; show va_P (dC, dI) vwCl _ t.heap; rw [ht]; exact hP⟩, hS.F ht⟩) hS.2.2 dX5_writeRegister_118
  · have hs := hs.1 c1
    refine lv_aload_n hx hb dX5_writeRegister_4 rfl (lv_at hl 0 rfl) ?_
    refine va_get (D := (dC, dI)) (ci := 7) (v := .ref (ad 18)) (C := RX5) (T := TX5) (N := 8) hx hb hts iW_X5 hown hK hP 0 rfl rfl 4 (by decide) (hts _ mF_RX5_40) (fun _ h9 => h9) rfl dX5_writeRegister_5 ?_
    refine lv_aload_n hx hb dX5_writeRegister_8 rfl (lv_at hl 0 rfl) ?_
    refine va_get (D := (dC, dI)) (ci := 7) (v := .ref (ad 1)) (C := RX5) (T := TX5) (N := 8) hx hb hts iW_X5 hown hK hP 0 rfl rfl 0 (by decide) (hts _ mF_RX5_10) (fun _ h9 => h9) rfl dX5_writeRegister_9 ?_
    refine va_get (D := (dC, dI)) (ci := 2) (v := .ref (ad 2)) (C := RX0) (T := TX0) (N := 2) hx hb hts iW_X0 hown hK hP 1 rfl rfl 0 (by decide) (hts _ mF_RX5_99) (fun _ h9 => h9) rfl dX5_writeRegister_12 ?_
    refine lv_iload_n hx hb dX5_writeRegister_15 rfl (lv_at hl 2 rfl) ?_
    obtain ⟨h20, hs⟩ := hs
    refine va_lald hx hb hK hP 2 1 rfl rfl h20 dX5_writeRegister_16 ?_
    obtain ⟨h21, hs⟩ := hs
    obtain ⟨u22, hu22⟩ : ∃ z, z = f_X4_writeNumber (Bc a1.toNatClampNeg) Ss Sm := ⟨_, rfl⟩
    have hs := hs u22 hu22
    refine q_X4_writeNumber hx hb hml hown hts mM_RX5_301 ⟨Nat.le_of_ble_eq_true rfl, Nat.le_of_ble_eq_true rfl⟩ ⟨Nat.le_of_ble_eq_true rfl, Nat.le_of_ble_eq_true rfl⟩ hl.1 (Nat.le_of_ble_eq_true rfl) hS dX5_writeRegister_17 (fun _ h9 => fA_mono hS.1 h9) hi hK hP (Bc a1.toNatClampNeg) h21 u22 hu22 (fun H locs hP hS => ?_)
    refine lv_goto (tgt := 118) hx hb dX5_writeRegister_20 (by decide) ?_
    rw [hQ9]
    have hf : f_X5_writeRegister a0 a1 Bc Ss Sm = (u22.1, u22.2) := by simp only [f_X5_writeRegister, if_pos c1, ← hu22]
    exact W.vret hx hb hr (fun t ht hW => ⟨⟨(), rfl, True.intro, by rw [hf]; show va_P (dC, dI) vwCl _ t.heap; rw [ht]; exact hP⟩, hS.F ht⟩) hS.2.2 dX5_writeRegister_118
theorem q_X5_writeRegister {p : Program} {l : Launch} {e : Env} {R : Room} {s : State} {m : MethodId} {args : Array Value} {below : List Frame} {meth : Method} {c : Code} {H : Heap} {locs : List Loc} {cells slots : Nat} {Q : State → Prop} {pc : Nat} {ls : Array Slot} {rest : List Value} {cc : ByteArray} {nL idx : Nat} {own : String} {A0 : Nat → Prop} {dC : Nat → ClassId} {dI : Nat → Nat → Nat} {cI cJ : ClassId} {ad : Nat → Nat} {Bc : Nat → Int64} {Bl : Nat → Int32} {Pk : Nat → Int32} {Pr : Nat → Int32} {Pl : Nat → Int32} {Pc : Nat → Int64} {Pm : Int32} {Gf : Nat → Int32} {Gt : Nat → Int32} {Gx : Nat → Int32} {Gd : Int32} {Gm : Int32} {Ek : Nat → Int32} {Er : Nat → Int32} {Ea : Nat → Int32} {Ex : Nat → Int32} {Em : Int32} {Eb : Int32} {Et : Int32} {Ss : Nat → Int32} {Sm : Int32} {Wg : Nat → Int64} {Wr : Nat → Int64} {Md : Nat → Int64} (hx : p.tables.exec = Jvm.exec) (hb : c.code = cc) (hml : c.maxLocals = nL) (hown : s.vm.findClass own = some m.cls) (hts : ∀ w ∈ bigW, w.before args s = true) (hlk : Cond.methodLink own idx yX5_writeRegister ∈ bigW) (hR : 8 ≤ R.frames ∧ 172 ≤ R.locals) (hf : cells + 0 ≤ R.cells ∧ slots + 0 ≤ R.slots) (hz : ls.size = nL) (hw : (rest.map fun v => v.category).sum ≤ 8) (hS : va_S A0 s.heap H locs) (hd : decode cc pc = .ok (.invokevirtual idx, 3)) (hA : ∀ q, fA 23 ad H.size q → A0 q) (hi : fI 23 ad) (hK : va_K (dC, dI) vwCl [(cI, .int), (cJ, .long)] s) (hP : va_P (dC, dI) vwCl (wC ad cI cJ Bc Bl Pk Pr Pl Pc Pm Gf Gt Gx Gd Gm Ek Er Ea Ex Em Eb Et Ss Sm Wg Wr Md) H) (hC : cxt A0 s s.heap) (a0 : Int32) (a1 : Int32) (hs : S_X5_writeRegister a0 a1 Bc Ss Sm)  (u : (Nat → Int32) × Int32) (hu : u = f_X5_writeRegister a0 a1 Bc Ss Sm) (k : ∀ (H1 : Heap) (locs1 : List Loc), va_P (dC, dI) vwCl (wC ad cI cJ Bc Bl Pk Pr Pl Pc Pm Gf Gt Gx Gd Gm Ek Er Ea Ex Em Eb Et u.1 u.2 Wg Wr Md) H1 → va_S A0 s.heap H1 locs1 → W p l e R s m args below meth c H1 locs1 (cells + 0) (slots + 0) Q (F0 m (pc + 3) ls (rest))) : W p l e R s m args below meth c H locs cells slots Q (F0 m pc ls (.int a1 :: .int a0 :: .ref (ad 0) :: rest)) := by
  subst hu
  exact va_callv (va_runV (As := [.int a0, .int a1]) (rest := rest) ⟨hx, hb, hml, hown, hts⟩ (c_X5_writeRegister l dC dI cI cJ ad hi H.size Bc Bl Pk Pr Pl Pc Pm Gf Gt Gx Gd Gm Ek Er Ea Ex Em Eb Et Ss Sm Wg Wr Md a0 a1 hs) (kV 2 hts hlk mI_X5_writeRegister mN_RX5 mY_X5_writeRegister mV_X5_writeRegister rfl rfl (by decide +kernel) hR) ⟨fun a U g mk q => ⟨q.1, q.2.1, q.2.2.1, va_K.moved (u := U) (U := U.calling g mk a) (Vm.Alike.refl U.vm) q.2.2.2.1, q.2.2.2.2.call⟩, va_recv hK hP (ci := 7) (q0 := 0) rfl rfl, fun U hU hW => ⟨rfl, by rw [hU], by rw [hU]; exact hP, va_K.moved hW.alike hK, hC.here hS hU hW hA⟩⟩ rfl rfl hz rfl (lv_room hw) hd hf) hS (fun q _ h => hA q h) (fun q h => hA q h) (fun u t H1 locs1 ht hvm hw9 hB hz1 hk1 hS1 => by
    skip
    exact k H1 locs1 (by rw [← ht]; exact hB) hS1)

def f_X5_shown (a0 : Int32) (a1 : Int32) (a2 : Int32) (Bc : Nat → Int64) (Ss : Nat → Int32) (Sm : Int32) : Nat × Int32 × (Nat → Int32) × Int32 := (let u1 := f_X5_checkKind a0 (4 : Int32); (if u1 = 0 then (let u3 := f_X5_checkRegister a1.toInt64; (if u3 = 0 then (let u5 := f_X4_clear Sm; (let u8 := f_X5_writeRegister a0 (f_X0_home a0 a1) Bc Ss u5; (let u10 := f_X4_signAt a2 u8.1 u8.2; (0, u10, u8.1, u8.2)))) else (u3, 0, Ss, Sm))) else (u1, 0, Ss, Sm)))
def S_X5_shown (a0 : Int32) (a1 : Int32) (a2 : Int32) (Bc : Nat → Int64) (Ss : Nat → Int32) (Sm : Int32) : Prop := ∀ u1, u1 = f_X5_checkKind a0 (4 : Int32) → (u1 = 0 → (∀ u3, u3 = f_X5_checkRegister a1.toInt64 → (u3 = 0 → (∀ u5, u5 = f_X4_clear Sm → ((S_X0_home a0 a1) ∧ ((S_X5_writeRegister a0 (f_X0_home a0 a1) Bc Ss u5) ∧ (∀ u8, u8 = f_X5_writeRegister a0 (f_X0_home a0 a1) Bc Ss u5 → ((S_X4_signAt a2 u8.1 u8.2) ∧ (∀ u10, u10 = f_X4_signAt a2 u8.1 u8.2 → (True))))))))))
set_option maxHeartbeats 4000000 in
set_option maxRecDepth 100000 in
theorem c_X5_shown (l : Launch) (hst : l.stackTraces = false) (dC : Nat → ClassId) (dI : Nat → Nat → Nat) (cI cJ : ClassId) (ad : Nat → Nat) (hi : fI 23 ad) (sz : Nat) (Bc : Nat → Int64) (Bl : Nat → Int32) (Pk : Nat → Int32) (Pr : Nat → Int32) (Pl : Nat → Int32) (Pc : Nat → Int64) (Pm : Int32) (Gf : Nat → Int32) (Gt : Nat → Int32) (Gx : Nat → Int32) (Gd : Int32) (Gm : Int32) (Ek : Nat → Int32) (Er : Nat → Int32) (Ea : Nat → Int32) (Ex : Nat → Int32) (Em : Int32) (Eb : Int32) (Et : Int32) (Ss : Nat → Int32) (Sm : Int32) (Wg : Nat → Int64) (Wr : Nat → Int64) (Md : Nat → Int64) (a0 : Int32) (a1 : Int32) (a2 : Int32) (hs : S_X5_shown a0 a1 a2 Bc Ss Sm) : vx_Met l yX5_shown (mW yX5_shown cX5_shown 4 (some .int)) { frames := 8, cells := 2, slots := 12, locals := 172 } (va_Pc [.ref (ad 0), .int a0, .int a1, .int a2] (fun U => U.heap.size = sz ∧ va_P (dC, dI) vwCl (wC ad cI cJ Bc Bl Pk Pr Pl Pc Pm Gf Gt Gx Gd Gm Ek Er Ea Ex Em Eb Et Ss Sm Wg Wr Md) U.heap ∧ va_K (dC, dI) vwCl [(cI, .int), (cJ, .long)] U ∧ cxt (fA 23 ad sz) U U.heap)) (va_Qi (fun (r : Int32) (_ : Unit) => (f_X5_shown a0 a1 a2 Bc Ss Sm).1 = 0 ∧ r = (f_X5_shown a0 a1 a2 Bc Ss Sm).2.1) (fun _ t => va_P (dC, dI) vwCl (wC ad cI cJ Bc Bl Pk Pr Pl Pc Pm Gf Gt Gx Gd Gm Ek Er Ea Ex Em Eb Et ((f_X5_shown a0 a1 a2 Bc Ss Sm).2.2.1) ((f_X5_shown a0 a1 a2 Bc Ss Sm).2.2.2) Wg Wr Md) t.heap) (fA 23 ad sz)) (vx_X (fun _ : Unit => ¬ (f_X5_shown a0 a1 a2 Bc Ss Sm).1 = 0) (fun E _ t => E = exN ((f_X5_shown a0 a1 a2 Bc Ss Sm).1) ∧ va_P (dC, dI) vwCl (wC ad cI cJ Bc Bl Pk Pr Pl Pc Pm Gf Gt Gx Gd Gm Ek Er Ea Ex Em Eb Et ((f_X5_shown a0 a1 a2 Bc Ss Sm).2.2.1) ((f_X5_shown a0 a1 a2 Bc Ss Sm).2.2.2) Wg Wr Md) t.heap) (fA 23 ad sz)) 2 12 (fA 23 ad sz) := by
  refine vx_ofW (cc := cX5_shown) (maxL := 4) (ret := (some .int)) (by decide) rfl ?_
  intro p e s m args below meth c s₁ B hml ht hv
  obtain ⟨rfl, hsz, hP, hK, hC⟩ := hv
  have hx := B.exec
  have hb := B.bytes
  have hr := B.returns
  have hts := mW_hts (atoms_spec (ws := (mW yX5_shown cX5_shown 4 (some .int))) B.pre)
  have hown : s.vm.findClass RX5 = some m.cls := findClass_of_methodNamed B.named
  have hlocks := B.notSynchronized
  subst hsz
  have hA : ∀ (n : Nat) (q : Nat), s.heap.size ≤ n → n ≤ q → fA 23 ad s.heap.size q := fun n q h1 h2 => Or.inr (Nat.le_trans h1 h2)
  have hS : va_S (fA 23 ad s.heap.size) s.heap s.heap [] := va_S.rf
  have hA : ∀ q, s.heap.size ≤ q → (fA 23 ad s.heap.size) q := fun q h => Or.inr h
  unfold S_X5_shown at hs
  have hl := lv_entry ([.ref (ad 0), .int a0, .int a1, .int a2]) (n := 4) (Nat.le_of_ble_eq_true rfl)
  rw [lg_entry_eq]
  generalize (lg_sl ([.ref (ad 0), .int a0, .int a1, .int a2]) ++ List.replicate (4 - (lg_sl ([.ref (ad 0), .int a0, .int a1, .int a2])).length) Slot.unset).toArray = ls at hl ⊢
  have hl : lv_has ls 4 [(0, .ref (ad 0)), (1, .int a0), (2, .int a1), (3, .int a2)] := hl
  refine W_gen (fun Q9 hQ9 => ?_)
  refine lv_iload_n hx hb dX5_shown_0 rfl (lv_at hl 1 rfl) ?_
  refine lv_iconst (v := 4) hx hb dX5_shown_1 (by decide) ?_
  obtain ⟨u1, hu1⟩ : ∃ z, z = f_X5_checkKind a0 (4 : Int32) := ⟨_, rfl⟩
  have hs := hs u1 hu1
  refine q_X5_checkKind hst hx hb hml hown hts mM_RX5_77 ⟨Nat.le_of_ble_eq_true rfl, Nat.le_of_ble_eq_true rfl⟩ ⟨Nat.le_of_ble_eq_true rfl, Nat.le_of_ble_eq_true rfl⟩ hl.1 (Nat.le_of_ble_eq_true rfl) hS dX5_shown_2 hA hC a0 (4 : Int32) u1 hu1 (fun hE c2 H locs hk hz hS ce q9 h71 h72 h73 => ?_) (fun c2 locs hS => ?_)
  · have hP := hP.kept (H1 := H) (fun k z hkz => hk z.1 (hP k z hkz).lt)
    rw [hQ9]
    have hf : f_X5_shown a0 a1 a2 Bc Ss Sm = (u1, 0, Ss, Sm) := by simp only [f_X5_shown, ← hu1, if_neg c2]
    refine vx_widen (k := 2) (n := 12) (Nat.le_of_ble_eq_true rfl) (Nat.le_of_ble_eq_true rfl) (vx_out (fun x hx => (ht x hx).elim) hlocks h71 h72 h73 (fun t hh hv => ⟨(), by rw [hf]; exact c2, ⟨by rw [hf]; exact hE, by rw [hf]; show va_P (dC, dI) vwCl _ t.heap; rw [hh]; exact hP⟩, hS.F hh⟩) hS.2.2 (Nat.le_of_ble_eq_true rfl) (Nat.le_of_ble_eq_true rfl))
  · have hs := hs c2
    refine lv_iload_n hx hb dX5_shown_5 rfl (lv_at hl 2 rfl) ?_
    refine lv_i2l hx hb dX5_shown_6 rfl ?_
    obtain ⟨u3, hu3⟩ : ∃ z, z = f_X5_checkRegister a1.toInt64 := ⟨_, rfl⟩
    have hs := hs u3 hu3
    refine q_X5_checkRegister hst hx hb hml hown hts mM_RX5_87 ⟨Nat.le_of_ble_eq_true rfl, Nat.le_of_ble_eq_true rfl⟩ ⟨Nat.le_of_ble_eq_true rfl, Nat.le_of_ble_eq_true rfl⟩ hl.1 (Nat.le_of_ble_eq_true rfl) hS dX5_shown_7 hA hC a1.toInt64 u3 hu3 (fun hE c4 H locs hk hz hS ce q9 h71 h72 h73 => ?_) (fun c4 locs hS => ?_)
    · have hP := hP.kept (H1 := H) (fun k z hkz => hk z.1 (hP k z hkz).lt)
      rw [hQ9]
      have hf : f_X5_shown a0 a1 a2 Bc Ss Sm = (u3, 0, Ss, Sm) := by simp only [f_X5_shown, ← hu1, if_pos c2, ← hu3, if_neg c4]
      refine vx_widen (k := 2) (n := 12) (Nat.le_of_ble_eq_true rfl) (Nat.le_of_ble_eq_true rfl) (vx_out (fun x hx => (ht x hx).elim) hlocks h71 h72 h73 (fun t hh hv => ⟨(), by rw [hf]; exact c4, ⟨by rw [hf]; exact hE, by rw [hf]; show va_P (dC, dI) vwCl _ t.heap; rw [hh]; exact hP⟩, hS.F hh⟩) hS.2.2 (Nat.le_of_ble_eq_true rfl) (Nat.le_of_ble_eq_true rfl))
    · have hs := hs c4
      refine lv_aload_n hx hb dX5_shown_10 rfl (lv_at hl 0 rfl) ?_
      refine va_get (D := (dC, dI)) (ci := 7) (v := .ref (ad 18)) (C := RX5) (T := TX5) (N := 8) hx hb hts iW_X5 hown hK hP 0 rfl rfl 4 (by decide) (hts _ mF_RX5_40) (fun _ h9 => h9) rfl dX5_shown_11 ?_
      obtain ⟨u5, hu5⟩ : ∃ z, z = f_X4_clear Sm := ⟨_, rfl⟩
      have hs := hs u5 hu5
      refine q_X4_clear hx hb hml hown hts mM_RX5_234 ⟨Nat.le_of_ble_eq_true rfl, Nat.le_of_ble_eq_true rfl⟩ ⟨Nat.le_of_ble_eq_true rfl, Nat.le_of_ble_eq_true rfl⟩ hl.1 (Nat.le_of_ble_eq_true rfl) hS dX5_shown_14 (fun _ h9 => fA_mono hS.1 h9) hi hK hP u5 hu5 (fun H locs hP hS => ?_)
      refine lv_aload_n hx hb dX5_shown_17 rfl (lv_at hl 0 rfl) ?_
      refine lv_iload_n hx hb dX5_shown_18 rfl (lv_at hl 1 rfl) ?_
      refine lv_iload_n hx hb dX5_shown_19 rfl (lv_at hl 1 rfl) ?_
      refine lv_iload_n hx hb dX5_shown_20 rfl (lv_at hl 2 rfl) ?_
      obtain ⟨h6, hs⟩ := hs
      refine q_X0_home hx hb hml hown hts mM_RX5_102 ⟨Nat.le_of_ble_eq_true rfl, Nat.le_of_ble_eq_true rfl⟩ ⟨Nat.le_of_ble_eq_true rfl, Nat.le_of_ble_eq_true rfl⟩ hl.1 (Nat.le_of_ble_eq_true rfl) hS dX5_shown_21 hA hC a0 a1 h6 (fun locs hS => ?_)
      obtain ⟨h7, hs⟩ := hs
      obtain ⟨u8, hu8⟩ : ∃ z, z = f_X5_writeRegister a0 (f_X0_home a0 a1) Bc Ss u5 := ⟨_, rfl⟩
      have hs := hs u8 hu8
      refine q_X5_writeRegister hx hb hml hown hts mM_RX5_235 ⟨Nat.le_of_ble_eq_true rfl, Nat.le_of_ble_eq_true rfl⟩ ⟨Nat.le_of_ble_eq_true rfl, Nat.le_of_ble_eq_true rfl⟩ hl.1 (Nat.le_of_ble_eq_true rfl) hS dX5_shown_24 (fun _ h9 => fA_mono hS.1 h9) hi hK hP hC a0 (f_X0_home a0 a1) h7 u8 hu8 (fun H locs hP hS => ?_)
      refine lv_aload_n hx hb dX5_shown_27 rfl (lv_at hl 0 rfl) ?_
      refine va_get (D := (dC, dI)) (ci := 7) (v := .ref (ad 18)) (C := RX5) (T := TX5) (N := 8) hx hb hts iW_X5 hown hK hP 0 rfl rfl 4 (by decide) (hts _ mF_RX5_40) (fun _ h9 => h9) rfl dX5_shown_28 ?_
      refine lv_iload_n hx hb dX5_shown_31 rfl (lv_at hl 3 rfl) ?_
      obtain ⟨h9, hs⟩ := hs
      obtain ⟨u10, hu10⟩ : ∃ z, z = f_X4_signAt a2 u8.1 u8.2 := ⟨_, rfl⟩
      have hs := hs u10 hu10
      refine q_X4_signAt hx hb hml hown hts mM_RX5_238 ⟨Nat.le_of_ble_eq_true rfl, Nat.le_of_ble_eq_true rfl⟩ ⟨Nat.le_of_ble_eq_true rfl, Nat.le_of_ble_eq_true rfl⟩ hl.1 (Nat.le_of_ble_eq_true rfl) hS dX5_shown_32 (fun _ h9 => fA_mono hS.1 h9) hi hK hP a2 h9 u10 hu10 (fun H locs hP hS => ?_)
      rw [hQ9]
      have hf : f_X5_shown a0 a1 a2 Bc Ss Sm = (0, u10, u8.1, u8.2) := by simp only [f_X5_shown, ← hu1, if_pos c2, ← hu3, if_pos c4, ← hu5, ← hu8, ← hu10]
      refine vx_ret ?_
      exact W.iret (v := u10) hx hb hr (fun t ht hW => ⟨⟨u10, (), rfl, ⟨by rw [hf], by rw [hf]⟩, by rw [hf]; show va_P (dC, dI) vwCl _ t.heap; rw [ht]; exact hP⟩, hS.F ht⟩) hS.2.2 dX5_shown_35
theorem q_X5_shown {p : Program} {l : Launch} {e : Env} {R : Room} {s : State} {m : MethodId} {args : Array Value} {below : List Frame} {meth : Method} {c : Code} {H : Heap} {locs : List Loc} {cells slots : Nat} {Q : State → Prop} {pc : Nat} {ls : Array Slot} {rest : List Value} {cc : ByteArray} {nL idx : Nat} {own : String} {A0 : Nat → Prop} {dC : Nat → ClassId} {dI : Nat → Nat → Nat} {cI cJ : ClassId} {ad : Nat → Nat} {Bc : Nat → Int64} {Bl : Nat → Int32} {Pk : Nat → Int32} {Pr : Nat → Int32} {Pl : Nat → Int32} {Pc : Nat → Int64} {Pm : Int32} {Gf : Nat → Int32} {Gt : Nat → Int32} {Gx : Nat → Int32} {Gd : Int32} {Gm : Int32} {Ek : Nat → Int32} {Er : Nat → Int32} {Ea : Nat → Int32} {Ex : Nat → Int32} {Em : Int32} {Eb : Int32} {Et : Int32} {Ss : Nat → Int32} {Sm : Int32} {Wg : Nat → Int64} {Wr : Nat → Int64} {Md : Nat → Int64} (hst : l.stackTraces = false) (hx : p.tables.exec = Jvm.exec) (hb : c.code = cc) (hml : c.maxLocals = nL) (hown : s.vm.findClass own = some m.cls) (hts : ∀ w ∈ bigW, w.before args s = true) (hlk : Cond.methodLink own idx yX5_shown ∈ bigW) (hR : 9 ≤ R.frames ∧ 195 ≤ R.locals) (hf : cells + 2 ≤ R.cells ∧ slots + 12 ≤ R.slots) (hz : ls.size = nL) (hw : (rest.map fun v => v.category).sum ≤ 8) (hS : va_S A0 s.heap H locs) (hd : decode cc pc = .ok (.invokevirtual idx, 3)) (hA : ∀ q, fA 23 ad H.size q → A0 q) (hi : fI 23 ad) (hK : va_K (dC, dI) vwCl [(cI, .int), (cJ, .long)] s) (hP : va_P (dC, dI) vwCl (wC ad cI cJ Bc Bl Pk Pr Pl Pc Pm Gf Gt Gx Gd Gm Ek Er Ea Ex Em Eb Et Ss Sm Wg Wr Md) H) (hC : cxt A0 s s.heap) (a0 : Int32) (a1 : Int32) (a2 : Int32) (hs : S_X5_shown a0 a1 a2 Bc Ss Sm)  (u : Nat × Int32 × (Nat → Int32) × Int32) (hu : u = f_X5_shown a0 a1 a2 Bc Ss Sm) (kx : ∀ {E : String} (hE : E = exN u.1) (ho : ¬ u.1 = 0) (H1 : Heap) (locs1 : List Loc), va_P (dC, dI) vwCl (wC ad cI cJ Bc Bl Pk Pr Pl Pc Pm Gf Gt Gx Gd Gm Ek Er Ea Ex Em Eb Et u.2.2.1 u.2.2.2 Wg Wr Md) H1 → va_S A0 s.heap H1 locs1 → ∀ (ce : Cell) (q9 : Addr), H1[q9]? = some ce → ce.vm = .none → s.vm.findClass E = some ce.cls → vx_W p l e R s m args below meth c H1 locs1 (cells + 2) (slots + 12) Q (F0 m pc ls rest) q9) (k : u.1 = 0 → ∀ (H1 : Heap) (locs1 : List Loc), va_P (dC, dI) vwCl (wC ad cI cJ Bc Bl Pk Pr Pl Pc Pm Gf Gt Gx Gd Gm Ek Er Ea Ex Em Eb Et u.2.2.1 u.2.2.2 Wg Wr Md) H1 → va_S A0 s.heap H1 locs1 → W p l e R s m args below meth c H1 locs1 (cells + 2) (slots + 12) Q (F0 m (pc + 3) ls (.int u.2.1 :: rest))) : W p l e R s m args below meth c H locs cells slots Q (F0 m pc ls (.int a2 :: .int a1 :: .int a0 :: .ref (ad 0) :: rest)) := by
  subst hu
  exact vx_calli (vx_runV (As := [.int a0, .int a1, .int a2]) (rest := rest) ⟨hx, hb, hml, hown, hts⟩ (c_X5_shown l hst dC dI cI cJ ad hi H.size Bc Bl Pk Pr Pl Pc Pm Gf Gt Gx Gd Gm Ek Er Ea Ex Em Eb Et Ss Sm Wg Wr Md a0 a1 a2 hs) (kV 3 hts hlk mI_X5_shown mN_RX5 mY_X5_shown mV_X5_shown rfl rfl (by decide +kernel) hR) ⟨fun a U g mk q => ⟨q.1, q.2.1, q.2.2.1, va_K.moved (u := U) (U := U.calling g mk a) (Vm.Alike.refl U.vm) q.2.2.2.1, q.2.2.2.2.call⟩, va_recv hK hP (ci := 7) (q0 := 0) rfl rfl, fun U hU hW => ⟨rfl, by rw [hU], by rw [hU]; exact hP, va_K.moved hW.alike hK, hC.here hS hU hW hA⟩⟩ rfl rfl hz rfl (lv_room hw) hd hf) hS (fun q _ h => hA q h) (fun q h => hA q h) (fun q _ h => hA q h) (fun E ce q9 u t H1 locs1 ht hvm hw9 hB hz1 hk1 hS1 h1 h2 h3 => kx hB.1 hw9 H1 locs1 (by rw [← ht]; exact hB.2) hS1 ce q9 h1 h2 h3) (fun r u t H1 locs1 ht hvm hw9 hB hz1 hk1 hS1 => by
    obtain ⟨e1, rfl⟩ := hw9
    exact k e1 H1 locs1 (by rw [← ht]; exact hB) hS1)
theorem qf_X5_shown {p : Program} {l : Launch} {e : Env} {R : Room} {s : State} {m : MethodId} {args : Array Value} {below : List Frame} {meth : Method} {c : Code} {H : Heap} {locs : List Loc} {cells slots : Nat} {Q : State → Prop} {pc : Nat} {ls : Array Slot} {rest : List Value} {cc : ByteArray} {nL idx : Nat} {own : String} {A0 : Nat → Prop} {dC : Nat → ClassId} {dI : Nat → Nat → Nat} {cI cJ : ClassId} {ad : Nat → Nat} {Bc : Nat → Int64} {Bl : Nat → Int32} {Pk : Nat → Int32} {Pr : Nat → Int32} {Pl : Nat → Int32} {Pc : Nat → Int64} {Pm : Int32} {Gf : Nat → Int32} {Gt : Nat → Int32} {Gx : Nat → Int32} {Gd : Int32} {Gm : Int32} {Ek : Nat → Int32} {Er : Nat → Int32} {Ea : Nat → Int32} {Ex : Nat → Int32} {Em : Int32} {Eb : Int32} {Et : Int32} {Ss : Nat → Int32} {Sm : Int32} {Wg : Nat → Int64} {Wr : Nat → Int64} {Md : Nat → Int64} (hst : l.stackTraces = false) (hx : p.tables.exec = Jvm.exec) (hb : c.code = cc) (hml : c.maxLocals = nL) (hown : s.vm.findClass own = some m.cls) (hts : ∀ w ∈ bigW, w.before args s = true) (hlk : Cond.methodLink own idx yX5_shown ∈ bigW) (hR : 9 ≤ R.frames ∧ 195 ≤ R.locals) (hf : cells + 2 ≤ R.cells ∧ slots + 12 ≤ R.slots) (hz : ls.size = nL) (hw : (rest.map fun v => v.category).sum ≤ 8) (hS : va_S A0 s.heap H locs) (hd : decode cc pc = .ok (.invokevirtual idx, 3)) (hA : ∀ q, fA 23 ad H.size q → A0 q) (hi : fI 23 ad) (hK : va_K (dC, dI) vwCl [(cI, .int), (cJ, .long)] s) (hP : va_P (dC, dI) vwCl (wC ad cI cJ Bc Bl Pk Pr Pl Pc Pm Gf Gt Gx Gd Gm Ek Er Ea Ex Em Eb Et Ss Sm Wg Wr Md) H) (hC : cxt A0 s s.heap) (a0 : Int32) (a1 : Int32) (a2 : Int32) (hs : S_X5_shown a0 a1 a2 Bc Ss Sm)  (u : Nat × Int32 × (Nat → Int32) × Int32) (hu : u = f_X5_shown a0 a1 a2 Bc Ss Sm) (kx : ∀ {E : String} (hE : E = exN u.1) (ho : ¬ u.1 = 0) (H1 : Heap) (locs1 : List Loc), va_P (dC, dI) vwCl (wC ad cI cJ Bc Bl Pk Pr Pl Pc Pm Gf Gt Gx Gd Gm Ek Er Ea Ex Em Eb Et u.2.2.1 u.2.2.2 Wg Wr Md) H1 → va_S A0 s.heap H1 locs1 → (∀ q : Nat, q < H.size → ¬ fA 23 ad H.size q → H1[q]? = H[q]?) → H.size ≤ H1.size → ∀ (ce : Cell) (q9 : Addr), H1[q9]? = some ce → ce.vm = .none → s.vm.findClass E = some ce.cls → vx_W p l e R s m args below meth c H1 locs1 (cells + 2) (slots + 12) Q (F0 m pc ls rest) q9) (k : u.1 = 0 → ∀ (H1 : Heap) (locs1 : List Loc), va_P (dC, dI) vwCl (wC ad cI cJ Bc Bl Pk Pr Pl Pc Pm Gf Gt Gx Gd Gm Ek Er Ea Ex Em Eb Et u.2.2.1 u.2.2.2 Wg Wr Md) H1 → va_S A0 s.heap H1 locs1 → (∀ q : Nat, q < H.size → ¬ fA 23 ad H.size q → H1[q]? = H[q]?) → H.size ≤ H1.size → W p l e R s m args below meth c H1 locs1 (cells + 2) (slots + 12) Q (F0 m (pc + 3) ls (.int u.2.1 :: rest))) : W p l e R s m args below meth c H locs cells slots Q (F0 m pc ls (.int a2 :: .int a1 :: .int a0 :: .ref (ad 0) :: rest)) := by
  subst hu
  exact vx_calli (vx_runV (As := [.int a0, .int a1, .int a2]) (rest := rest) ⟨hx, hb, hml, hown, hts⟩ (c_X5_shown l hst dC dI cI cJ ad hi H.size Bc Bl Pk Pr Pl Pc Pm Gf Gt Gx Gd Gm Ek Er Ea Ex Em Eb Et Ss Sm Wg Wr Md a0 a1 a2 hs) (kV 3 hts hlk mI_X5_shown mN_RX5 mY_X5_shown mV_X5_shown rfl rfl (by decide +kernel) hR) ⟨fun a U g mk q => ⟨q.1, q.2.1, q.2.2.1, va_K.moved (u := U) (U := U.calling g mk a) (Vm.Alike.refl U.vm) q.2.2.2.1, q.2.2.2.2.call⟩, va_recv hK hP (ci := 7) (q0 := 0) rfl rfl, fun U hU hW => ⟨rfl, by rw [hU], by rw [hU]; exact hP, va_K.moved hW.alike hK, hC.here hS hU hW hA⟩⟩ rfl rfl hz rfl (lv_room hw) hd hf) hS (fun q _ h => hA q h) (fun q h => hA q h) (fun q _ h => hA q h) (fun E ce q9 u t H1 locs1 ht hvm hw9 hB hz1 hk1 hS1 h1 h2 h3 => kx hB.1 hw9 H1 locs1 (by rw [← ht]; exact hB.2) hS1 hk1 hz1 ce q9 h1 h2 h3) (fun r u t H1 locs1 ht hvm hw9 hB hz1 hk1 hS1 => by
    obtain ⟨e1, rfl⟩ := hw9
    exact k e1 H1 locs1 (by rw [← ht]; exact hB) hS1 hk1 hz1)
