theorem dJ1_charAt_3b067_0 : decode cJ1_charAt_3b067 0 = .ok (.iload_n 1, 1) := by decide +kernel
theorem dJ1_charAt_3b067_1 : decode cJ1_charAt_3b067 1 = .ok (.aload_n 0, 1) := by decide +kernel
theorem dJ1_charAt_3b067_2 : decode cJ1_charAt_3b067 2 = .ok (.arraylength, 1) := by decide +kernel
theorem dJ1_charAt_3b067_3 : decode cJ1_charAt_3b067 3 = .ok (.invokestatic 9, 3) := by decide +kernel
theorem dJ1_charAt_3b067_6 : decode cJ1_charAt_3b067 6 = .ok (.aload_n 0, 1) := by decide +kernel
theorem dJ1_charAt_3b067_7 : decode cJ1_charAt_3b067 7 = .ok (.iload_n 1, 1) := by decide +kernel
theorem dJ1_charAt_3b067_8 : decode cJ1_charAt_3b067 8 = .ok (.baload, 1) := by decide +kernel
theorem dJ1_charAt_3b067_9 : decode cJ1_charAt_3b067 9 = .ok (.sipush 255, 3) := by decide +kernel
theorem dJ1_charAt_3b067_12 : decode cJ1_charAt_3b067 12 = .ok (.iand, 1) := by decide +kernel
theorem dJ1_charAt_3b067_13 : decode cJ1_charAt_3b067 13 = .ok (.i2c, 1) := by decide +kernel
theorem dJ1_charAt_3b067_14 : decode cJ1_charAt_3b067 14 = .ok (.ireturn, 1) := by decide +kernel
theorem dJ3_checkIndex_8e157_0 : decode cJ3_checkIndex_8e157 0 = .ok (.iload_n 0, 1) := by decide +kernel
theorem dJ3_checkIndex_8e157_1 : decode cJ3_checkIndex_8e157 1 = .ok (.ifCond .lt 8, 3) := by decide +kernel
theorem dJ3_checkIndex_8e157_4 : decode cJ3_checkIndex_8e157 4 = .ok (.iload_n 0, 1) := by decide +kernel
theorem dJ3_checkIndex_8e157_5 : decode cJ3_checkIndex_8e157 5 = .ok (.iload_n 1, 1) := by decide +kernel
theorem dJ3_checkIndex_8e157_6 : decode cJ3_checkIndex_8e157 6 = .ok (.if_icmp .lt 10, 3) := by decide +kernel
theorem dJ3_checkIndex_8e157_9 : decode cJ3_checkIndex_8e157 9 = .ok (.aload_n 2, 1) := by decide +kernel
theorem dJ3_checkIndex_8e157_10 : decode cJ3_checkIndex_8e157 10 = .ok (.iload_n 0, 1) := by decide +kernel
theorem dJ3_checkIndex_8e157_11 : decode cJ3_checkIndex_8e157 11 = .ok (.iload_n 1, 1) := by decide +kernel
theorem dJ3_checkIndex_8e157_12 : decode cJ3_checkIndex_8e157 12 = .ok (.invokestatic 95, 3) := by decide +kernel
theorem dJ3_checkIndex_8e157_15 : decode cJ3_checkIndex_8e157 15 = .ok (.athrow, 1) := by decide +kernel
theorem dJ3_checkIndex_8e157_16 : decode cJ3_checkIndex_8e157 16 = .ok (.iload_n 0, 1) := by decide +kernel
theorem dJ3_checkIndex_8e157_17 : decode cJ3_checkIndex_8e157 17 = .ok (.ireturn, 1) := by decide +kernel

def f_J0_coder_7d493 : Int32 := (0 : Int32)
set_option maxHeartbeats 4000000 in
set_option maxRecDepth 100000 in
theorem c_J0_coder_7d493 (l : Launch) (hp : Heap) (q v : Nat) (bs : List Int32) : Met l yJ0_coder_7d493 (mW yJ0_coder_7d493 cJ0_coder_7d493 1 (some .byte)) { frames := 0, cells := 0, slots := 0, locals := 0 } (va_Pc [.ref q] (fun U => U.heap = hp ∧ cxt (fun q : Nat => hp.size ≤ q) U U.heap ∧ stO q v bs (fun q : Nat => hp.size ≤ q) U U.heap)) (va_Qi (fun (r : Int32) (_ : Unit) => r = f_J0_coder_7d493) (fun _ t => t.heap = hp) (fun q : Nat => hp.size ≤ q)) 0 0 (fun q : Nat => hp.size ≤ q) := by
  refine Met.ofW (cc := cJ0_coder_7d493) (maxL := 1) (ret := (some .byte)) (by decide) rfl ?_
  intro p e s m args below meth c s₁ B hml hv
  obtain ⟨rfl, hh, hC, hO⟩ := hv
  have hx := B.exec
  have hb := B.bytes
  have hr := B.returns
  have hts := mW_hts (atoms_spec (ws := (mW yJ0_coder_7d493 cJ0_coder_7d493 1 (some .byte))) B.pre)
  have hown : s.vm.findClass RJ0 = some m.cls := findClass_of_methodNamed B.named
  have hlocks := B.notSynchronized
  subst hh
  have hA : ∀ (n : Nat) (q : Nat), s.heap.size ≤ n → n ≤ q → s.heap.size ≤ q := fun n q h1 h2 => Nat.le_trans h1 h2
  have hS : va_S ((fun q : Nat => s.heap.size ≤ q)) s.heap s.heap [] := va_S.rf
  have hA : ∀ q, s.heap.size ≤ q → ((fun q : Nat => s.heap.size ≤ q)) q := fun q h => h
  have hl := lv_entry ([.ref q]) (n := 1) (Nat.le_of_ble_eq_true rfl)
  rw [lg_entry_eq]
  generalize (lg_sl ([.ref q]) ++ List.replicate (1 - (lg_sl ([.ref q])).length) Slot.unset).toArray = ls at hl ⊢
  have hl : lv_has ls 1 [(0, .ref q)] := hl
  refine W_gen (fun Q9 hQ9 => ?_)
  refine va_gets hx hb hC.2.2.2.2.2.2.2.2.2.2.2.1.1 hS hown (hts _ mF_RJ0_38) (fun _ h9 => h9) dJ0_coder_7d493_0 ?_
  refine lv_if_eq (tgt := 13) hx hb dJ0_coder_7d493_3 (by decide) (fun c1 => ?_) (fun c1 => ?_)
  · exact absurd c1 (by decide)
  · refine lv_aload_n hx hb dJ0_coder_7d493_6 rfl (lv_at hl 0 rfl) ?_
    refine vk_getf hx hb hO.2.1 hS hown (hts _ mF_RJ0_15) (fun _ h9 => h9) dJ0_coder_7d493_7 ?_
    refine lv_goto (tgt := 14) hx hb dJ0_coder_7d493_10 (by decide) ?_
    rw [hQ9]
    have hf : f_J0_coder_7d493 = (0 : Int32) := by simp only [f_J0_coder_7d493]
    exact W.zret (v := (0 : Int32)) (ty := .byte) hx hb hr (rfl) (fun t ht hW => ⟨⟨(0 : Int32), (), rfl, by rw [hf], ht⟩, hS.F ht⟩) hS.2.2 dJ0_coder_7d493_14
theorem q_J0_coder_7d493 {p : Program} {l : Launch} {e : Env} {R : Room} {s : State} {m : MethodId} {args : Array Value} {below : List Frame} {meth : Method} {c : Code} {H : Heap} {locs : List Loc} {cells slots : Nat} {Q : State → Prop} {pc : Nat} {ls : Array Slot} {rest : List Value} {cc : ByteArray} {nL idx : Nat} {own : String} {A0 : Nat → Prop} (hx : p.tables.exec = Jvm.exec) (hb : c.code = cc) (hml : c.maxLocals = nL) (hown : s.vm.findClass own = some m.cls) (hts : ∀ w ∈ bigW, w.before args s = true) (hlk : Cond.methodLink own idx yJ0_coder_7d493 ∈ bigW) (hR : 1 ≤ R.frames ∧ 20 ≤ R.locals) (hf : cells + 0 ≤ R.cells ∧ slots + 0 ≤ R.slots) (hz : ls.size = nL) (hw : (rest.map fun v => v.category).sum ≤ 8) (hS : va_S A0 s.heap H locs) (hd : decode cc pc = .ok (.invokevirtual idx, 3)) (hA : ∀ q, s.heap.size ≤ q → A0 q) (hC : cxt A0 s s.heap) (q v : Nat) (bs : List Int32) (hO : stO q v bs A0 s s.heap) (k : ∀ locs, va_S A0 s.heap H locs → W p l e R s m args below meth c H locs cells slots Q (F0 m (pc + 3) ls (.int (f_J0_coder_7d493) :: rest))) : W p l e R s m args below meth c H locs cells slots Q (F0 m pc ls (.ref q :: rest)) :=
  va_calli (va_runV (As := []) (rest := rest) ⟨hx, hb, hml, hown, hts⟩ (c_J0_coder_7d493 l H q v bs) (kV 0 hts hlk mI_J0_coder_7d493 mN_RJ0 mY_J0_coder_7d493 mV_J0_coder_7d493 rfl rfl (by decide +kernel) hR) ⟨fun a U g mk q => ⟨q.1, q.2.1, q.2.2.1.call, q.2.2.2.call⟩, (by obtain ⟨c9, h1, h2, h3, -⟩ := hO.1.kept hS.2.1; exact ⟨c9, h1, h2, h3⟩), fun U hU hW => ⟨rfl, hU, hC.here hS hU hW (fun q h => hA q (Nat.le_trans hS.1 h)), hO.here hS hU hW (fun q h => hA q (Nat.le_trans hS.1 h))⟩⟩ rfl rfl hz rfl (lv_room hw) hd hf) hS (fun q h1 h2 => absurd h1 (Nat.not_lt.mpr h2)) (fun q h => hA q (Nat.le_trans hS.1 h)) (fun r u t H1 locs1 ht hvm hw9 hB hz1 hk1 hS1 => by
    have e : H1 = H := by rw [← ht]; exact hB
    subst e; subst hw9
    exact k locs1 hS1)

def f_J0_length_8abf5 (bs : List Int32) : Int32 := ((Int32.ofNat bs.length) >>> ((0 : Int32) &&& 31))
set_option maxHeartbeats 4000000 in
set_option maxRecDepth 100000 in
theorem c_J0_length_8abf5 (l : Launch) (hp : Heap) (q v : Nat) (bs : List Int32) : Met l yJ0_length_8abf5 (mW yJ0_length_8abf5 cJ0_length_8abf5 1 (some .int)) { frames := 1, cells := 0, slots := 0, locals := 20 } (va_Pc [.ref q] (fun U => U.heap = hp ∧ cxt (fun q : Nat => hp.size ≤ q) U U.heap ∧ stO q v bs (fun q : Nat => hp.size ≤ q) U U.heap)) (va_Qi (fun (r : Int32) (_ : Unit) => r = f_J0_length_8abf5 bs) (fun _ t => t.heap = hp) (fun q : Nat => hp.size ≤ q)) 0 0 (fun q : Nat => hp.size ≤ q) := by
  refine Met.ofW (cc := cJ0_length_8abf5) (maxL := 1) (ret := (some .int)) (by decide) rfl ?_
  intro p e s m args below meth c s₁ B hml hv
  obtain ⟨rfl, hh, hC, hO⟩ := hv
  have hx := B.exec
  have hb := B.bytes
  have hr := B.returns
  have hts := mW_hts (atoms_spec (ws := (mW yJ0_length_8abf5 cJ0_length_8abf5 1 (some .int))) B.pre)
  have hown : s.vm.findClass RJ0 = some m.cls := findClass_of_methodNamed B.named
  have hlocks := B.notSynchronized
  subst hh
  have hA : ∀ (n : Nat) (q : Nat), s.heap.size ≤ n → n ≤ q → s.heap.size ≤ q := fun n q h1 h2 => Nat.le_trans h1 h2
  have hS : va_S ((fun q : Nat => s.heap.size ≤ q)) s.heap s.heap [] := va_S.rf
  have hA : ∀ q, s.heap.size ≤ q → ((fun q : Nat => s.heap.size ≤ q)) q := fun q h => h
  have hl := lv_entry ([.ref q]) (n := 1) (Nat.le_of_ble_eq_true rfl)
  rw [lg_entry_eq]
  generalize (lg_sl ([.ref q]) ++ List.replicate (1 - (lg_sl ([.ref q])).length) Slot.unset).toArray = ls at hl ⊢
  have hl : lv_has ls 1 [(0, .ref q)] := hl
  refine W_gen (fun Q9 hQ9 => ?_)
  refine lv_aload_n hx hb dJ0_length_8abf5_0 rfl (lv_at hl 0 rfl) ?_
  refine vk_getf hx hb hO.2.2.1 hS hown (hts _ mF_RJ0_9) (fun _ h9 => h9) dJ0_length_8abf5_1 ?_
  refine va_tlen hx hb hO.2.2.2 hS (v := (Int32.ofNat bs.length)) rfl dJ0_length_8abf5_4 ?_
  refine lv_aload_n hx hb dJ0_length_8abf5_5 rfl (lv_at hl 0 rfl) ?_
  refine q_J0_coder_7d493 hx hb hml hown hts mM_RJ0_335 ⟨Nat.le_of_ble_eq_true rfl, Nat.le_of_ble_eq_true rfl⟩ ⟨Nat.le_of_ble_eq_true rfl, Nat.le_of_ble_eq_true rfl⟩ hl.1 (Nat.le_of_ble_eq_true rfl) hS dJ0_length_8abf5_6 hA hC q v bs hO (fun locs hS => ?_)
  refine lv_ishr hx hb dJ0_length_8abf5_9 ?_
  rw [hQ9]
  have hf : f_J0_length_8abf5 bs = ((Int32.ofNat bs.length) >>> ((0 : Int32) &&& 31)) := by simp only [f_J0_length_8abf5]
  exact W.iret (v := ((Int32.ofNat bs.length) >>> ((0 : Int32) &&& 31))) hx hb hr (fun t ht hW => ⟨⟨((Int32.ofNat bs.length) >>> ((0 : Int32) &&& 31)), (), rfl, by rw [hf], ht⟩, hS.F ht⟩) hS.2.2 dJ0_length_8abf5_10
theorem q_J0_length_8abf5 {p : Program} {l : Launch} {e : Env} {R : Room} {s : State} {m : MethodId} {args : Array Value} {below : List Frame} {meth : Method} {c : Code} {H : Heap} {locs : List Loc} {cells slots : Nat} {Q : State → Prop} {pc : Nat} {ls : Array Slot} {rest : List Value} {cc : ByteArray} {nL idx : Nat} {own : String} {A0 : Nat → Prop} (hx : p.tables.exec = Jvm.exec) (hb : c.code = cc) (hml : c.maxLocals = nL) (hown : s.vm.findClass own = some m.cls) (hts : ∀ w ∈ bigW, w.before args s = true) (hlk : Cond.methodLink own idx yJ0_length_8abf5 ∈ bigW) (hR : 2 ≤ R.frames ∧ 40 ≤ R.locals) (hf : cells + 0 ≤ R.cells ∧ slots + 0 ≤ R.slots) (hz : ls.size = nL) (hw : (rest.map fun v => v.category).sum ≤ 8) (hS : va_S A0 s.heap H locs) (hd : decode cc pc = .ok (.invokevirtual idx, 3)) (hA : ∀ q, s.heap.size ≤ q → A0 q) (hC : cxt A0 s s.heap) (q v : Nat) (bs : List Int32) (hO : stO q v bs A0 s s.heap) (k : ∀ locs, va_S A0 s.heap H locs → W p l e R s m args below meth c H locs cells slots Q (F0 m (pc + 3) ls (.int (f_J0_length_8abf5 bs) :: rest))) : W p l e R s m args below meth c H locs cells slots Q (F0 m pc ls (.ref q :: rest)) :=
  va_calli (va_runV (As := []) (rest := rest) ⟨hx, hb, hml, hown, hts⟩ (c_J0_length_8abf5 l H q v bs) (kV 0 hts hlk mI_J0_length_8abf5 mN_RJ0 mY_J0_length_8abf5 mV_J0_length_8abf5 rfl rfl (by decide +kernel) hR) ⟨fun a U g mk q => ⟨q.1, q.2.1, q.2.2.1.call, q.2.2.2.call⟩, (by obtain ⟨c9, h1, h2, h3, -⟩ := hO.1.kept hS.2.1; exact ⟨c9, h1, h2, h3⟩), fun U hU hW => ⟨rfl, hU, hC.here hS hU hW (fun q h => hA q (Nat.le_trans hS.1 h)), hO.here hS hU hW (fun q h => hA q (Nat.le_trans hS.1 h))⟩⟩ rfl rfl hz rfl (lv_room hw) hd hf) hS (fun q h1 h2 => absurd h1 (Nat.not_lt.mpr h2)) (fun q h => hA q (Nat.le_trans hS.1 h)) (fun r u t H1 locs1 ht hvm hw9 hB hz1 hk1 hS1 => by
    have e : H1 = H := by rw [← ht]; exact hB
    subst e; subst hw9
    exact k locs1 hS1)

def f_J0_isLatin1_aae02 : Int32 := (1 : Int32)
set_option maxHeartbeats 4000000 in
set_option maxRecDepth 100000 in
theorem c_J0_isLatin1_aae02 (l : Launch) (hp : Heap) (q v : Nat) (bs : List Int32) : Met l yJ0_isLatin1_aae02 (mW yJ0_isLatin1_aae02 cJ0_isLatin1_aae02 1 (some .boolean)) { frames := 0, cells := 0, slots := 0, locals := 0 } (va_Pc [.ref q] (fun U => U.heap = hp ∧ cxt (fun q : Nat => hp.size ≤ q) U U.heap ∧ stO q v bs (fun q : Nat => hp.size ≤ q) U U.heap)) (va_Qi (fun (r : Int32) (_ : Unit) => r = f_J0_isLatin1_aae02) (fun _ t => t.heap = hp) (fun q : Nat => hp.size ≤ q)) 0 0 (fun q : Nat => hp.size ≤ q) := by
  refine Met.ofW (cc := cJ0_isLatin1_aae02) (maxL := 1) (ret := (some .boolean)) (by decide) rfl ?_
  intro p e s m args below meth c s₁ B hml hv
  obtain ⟨rfl, hh, hC, hO⟩ := hv
  have hx := B.exec
  have hb := B.bytes
  have hr := B.returns
  have hts := mW_hts (atoms_spec (ws := (mW yJ0_isLatin1_aae02 cJ0_isLatin1_aae02 1 (some .boolean))) B.pre)
  have hown : s.vm.findClass RJ0 = some m.cls := findClass_of_methodNamed B.named
  have hlocks := B.notSynchronized
  subst hh
  have hA : ∀ (n : Nat) (q : Nat), s.heap.size ≤ n → n ≤ q → s.heap.size ≤ q := fun n q h1 h2 => Nat.le_trans h1 h2
  have hS : va_S ((fun q : Nat => s.heap.size ≤ q)) s.heap s.heap [] := va_S.rf
  have hA : ∀ q, s.heap.size ≤ q → ((fun q : Nat => s.heap.size ≤ q)) q := fun q h => h
  have hl := lv_entry ([.ref q]) (n := 1) (Nat.le_of_ble_eq_true rfl)
  rw [lg_entry_eq]
  generalize (lg_sl ([.ref q]) ++ List.replicate (1 - (lg_sl ([.ref q])).length) Slot.unset).toArray = ls at hl ⊢
  have hl : lv_has ls 1 [(0, .ref q)] := hl
  refine W_gen (fun Q9 hQ9 => ?_)
  refine va_gets hx hb hC.2.2.2.2.2.2.2.2.2.2.2.1.1 hS hown (hts _ mF_RJ0_38) (fun _ h9 => h9) dJ0_isLatin1_aae02_0 ?_
  refine lv_if_eq (tgt := 17) hx hb dJ0_isLatin1_aae02_3 (by decide) (fun c1 => ?_) (fun c1 => ?_)
  · exact absurd c1 (by decide)
  · refine lv_aload_n hx hb dJ0_isLatin1_aae02_6 rfl (lv_at hl 0 rfl) ?_
    refine vk_getf hx hb hO.2.1 hS hown (hts _ mF_RJ0_15) (fun _ h9 => h9) dJ0_isLatin1_aae02_7 ?_
    refine lv_if_ne (tgt := 17) hx hb dJ0_isLatin1_aae02_10 (by decide) (fun c2 => ?_) (fun c2 => ?_)
    · exact absurd (by decide) c2
    · refine lv_iconst (v := 1) hx hb dJ0_isLatin1_aae02_13 (by decide) ?_
      refine lv_goto (tgt := 18) hx hb dJ0_isLatin1_aae02_14 (by decide) ?_
      rw [hQ9]
      have hf : f_J0_isLatin1_aae02 = (1 : Int32) := by simp only [f_J0_isLatin1_aae02]
      exact W.zret (v := (1 : Int32)) (ty := .boolean) hx hb hr (rfl) (fun t ht hW => ⟨⟨(1 : Int32), (), rfl, by rw [hf], ht⟩, hS.F ht⟩) hS.2.2 dJ0_isLatin1_aae02_18
theorem q_J0_isLatin1_aae02 {p : Program} {l : Launch} {e : Env} {R : Room} {s : State} {m : MethodId} {args : Array Value} {below : List Frame} {meth : Method} {c : Code} {H : Heap} {locs : List Loc} {cells slots : Nat} {Q : State → Prop} {pc : Nat} {ls : Array Slot} {rest : List Value} {cc : ByteArray} {nL idx : Nat} {own : String} {A0 : Nat → Prop} (hx : p.tables.exec = Jvm.exec) (hb : c.code = cc) (hml : c.maxLocals = nL) (hown : s.vm.findClass own = some m.cls) (hts : ∀ w ∈ bigW, w.before args s = true) (hlk : Cond.methodLink own idx yJ0_isLatin1_aae02 ∈ bigW) (hR : 1 ≤ R.frames ∧ 20 ≤ R.locals) (hf : cells + 0 ≤ R.cells ∧ slots + 0 ≤ R.slots) (hz : ls.size = nL) (hw : (rest.map fun v => v.category).sum ≤ 8) (hS : va_S A0 s.heap H locs) (hd : decode cc pc = .ok (.invokevirtual idx, 3)) (hA : ∀ q, s.heap.size ≤ q → A0 q) (hC : cxt A0 s s.heap) (q v : Nat) (bs : List Int32) (hO : stO q v bs A0 s s.heap) (k : ∀ locs, va_S A0 s.heap H locs → W p l e R s m args below meth c H locs cells slots Q (F0 m (pc + 3) ls (.int (f_J0_isLatin1_aae02) :: rest))) : W p l e R s m args below meth c H locs cells slots Q (F0 m pc ls (.ref q :: rest)) :=
  va_calli (va_runV (As := []) (rest := rest) ⟨hx, hb, hml, hown, hts⟩ (c_J0_isLatin1_aae02 l H q v bs) (kV 0 hts hlk mI_J0_isLatin1_aae02 mN_RJ0 mY_J0_isLatin1_aae02 mV_J0_isLatin1_aae02 rfl rfl (by decide +kernel) hR) ⟨fun a U g mk q => ⟨q.1, q.2.1, q.2.2.1.call, q.2.2.2.call⟩, (by obtain ⟨c9, h1, h2, h3, -⟩ := hO.1.kept hS.2.1; exact ⟨c9, h1, h2, h3⟩), fun U hU hW => ⟨rfl, hU, hC.here hS hU hW (fun q h => hA q (Nat.le_trans hS.1 h)), hO.here hS hU hW (fun q h => hA q (Nat.le_trans hS.1 h))⟩⟩ rfl rfl hz rfl (lv_room hw) hd hf) hS (fun q h1 h2 => absurd h1 (Nat.not_lt.mpr h2)) (fun q h => hA q (Nat.le_trans hS.1 h)) (fun r u t H1 locs1 ht hvm hw9 hB hz1 hk1 hS1 => by
    have e : H1 = H := by rw [← ht]; exact hB
    subst e; subst hw9
    exact k locs1 hS1)

def f_J3_checkIndex_8e157N (a0 : Int32) (a1 : Int32) : Int32 := (if a0 < 0 then 0 else (if a0 < a1 then a0 else 0))
def S_J3_checkIndex_8e157N (a0 : Int32) (a1 : Int32) : Prop := (a0 < 0 → (False)) ∧ (¬ a0 < 0 → ((a0 < a1 → (True)) ∧ (¬ a0 < a1 → (False))))
set_option maxHeartbeats 4000000 in
set_option maxRecDepth 100000 in
theorem c_J3_checkIndex_8e157N (l : Launch) (hp : Heap) (a0 : Int32) (a1 : Int32) (hs : S_J3_checkIndex_8e157N a0 a1) : Met l yJ3_checkIndex_8e157 (mW yJ3_checkIndex_8e157 cJ3_checkIndex_8e157 3 (some .int)) { frames := 0, cells := 0, slots := 0, locals := 0 } (va_Pc [.int a0, .int a1, .null] (fun U => U.heap = hp)) (va_Qi (fun (r : Int32) (_ : Unit) => r = f_J3_checkIndex_8e157N a0 a1) (fun _ t => t.heap = hp) (fun q : Nat => hp.size ≤ q)) 0 0 (fun q : Nat => hp.size ≤ q) := by
  refine Met.ofW (cc := cJ3_checkIndex_8e157) (maxL := 3) (ret := (some .int)) (by decide) rfl ?_
  intro p e s m args below meth c s₁ B hml hv
  obtain ⟨rfl, hh⟩ := hv
  have hx := B.exec
  have hb := B.bytes
  have hr := B.returns
  have hts := mW_hts (atoms_spec (ws := (mW yJ3_checkIndex_8e157 cJ3_checkIndex_8e157 3 (some .int))) B.pre)
  have hown : s.vm.findClass RJ3 = some m.cls := findClass_of_methodNamed B.named
  have hlocks := B.notSynchronized
  subst hh
  have hA : ∀ (n : Nat) (q : Nat), s.heap.size ≤ n → n ≤ q → s.heap.size ≤ q := fun n q h1 h2 => Nat.le_trans h1 h2
  have hS : va_S ((fun q : Nat => s.heap.size ≤ q)) s.heap s.heap [] := va_S.rf
  have hA : ∀ q, s.heap.size ≤ q → ((fun q : Nat => s.heap.size ≤ q)) q := fun q h => h
  unfold S_J3_checkIndex_8e157N at hs
  have hl := lv_entry ([.int a0, .int a1, .null]) (n := 3) (Nat.le_of_ble_eq_true rfl)
  rw [lg_entry_eq]
  generalize (lg_sl ([.int a0, .int a1, .null]) ++ List.replicate (3 - (lg_sl ([.int a0, .int a1, .null])).length) Slot.unset).toArray = ls at hl ⊢
  have hl : lv_has ls 3 [(0, .int a0), (1, .int a1), (2, .null)] := hl
  refine W_gen (fun Q9 hQ9 => ?_)
  refine lv_iload_n hx hb dJ3_checkIndex_8e157_0 rfl (lv_at hl 0 rfl) ?_
  refine lv_if_lt (tgt := 9) hx hb dJ3_checkIndex_8e157_1 (by decide) (fun c1 => ?_) (fun c1 => ?_)
  · have hs := hs.1 c1
    exact hs.elim
  · have hs := hs.2 c1
    refine lv_iload_n hx hb dJ3_checkIndex_8e157_4 rfl (lv_at hl 0 rfl) ?_
    refine lv_iload_n hx hb dJ3_checkIndex_8e157_5 rfl (lv_at hl 1 rfl) ?_
    refine lv_icmp_lt (tgt := 16) hx hb dJ3_checkIndex_8e157_6 (by decide) (fun c2 => ?_) (fun c2 => ?_)
    · have hs := hs.1 c2
      refine lv_iload_n hx hb dJ3_checkIndex_8e157_16 rfl (lv_at hl 0 rfl) ?_
      rw [hQ9]
      have hf : f_J3_checkIndex_8e157N a0 a1 = a0 := by simp only [f_J3_checkIndex_8e157N, if_neg c1, if_pos c2]
      exact W.iret (v := a0) hx hb hr (fun t ht hW => ⟨⟨a0, (), rfl, by rw [hf], ht⟩, hS.F ht⟩) hS.2.2 dJ3_checkIndex_8e157_17
    · have hs := hs.2 c2
      exact hs.elim
theorem q_J3_checkIndex_8e157N {p : Program} {l : Launch} {e : Env} {R : Room} {s : State} {m : MethodId} {args : Array Value} {below : List Frame} {meth : Method} {c : Code} {H : Heap} {locs : List Loc} {cells slots : Nat} {Q : State → Prop} {pc : Nat} {ls : Array Slot} {rest : List Value} {cc : ByteArray} {nL idx : Nat} {own : String} {A0 : Nat → Prop} (hx : p.tables.exec = Jvm.exec) (hb : c.code = cc) (hml : c.maxLocals = nL) (hown : s.vm.findClass own = some m.cls) (hts : ∀ w ∈ bigW, w.before args s = true) (hlk : Cond.methodLink own idx yJ3_checkIndex_8e157 ∈ bigW) (hR : 1 ≤ R.frames ∧ 22 ≤ R.locals) (hf : cells + 0 ≤ R.cells ∧ slots + 0 ≤ R.slots) (hz : ls.size = nL) (hw : (rest.map fun v => v.category).sum ≤ 8) (hS : va_S A0 s.heap H locs) (hd : decode cc pc = .ok (.invokestatic idx, 3)) (hA : ∀ q, s.heap.size ≤ q → A0 q) (a0 : Int32) (a1 : Int32) (hs : S_J3_checkIndex_8e157N a0 a1) (k : ∀ locs, va_S A0 s.heap H locs → W p l e R s m args below meth c H locs cells slots Q (F0 m (pc + 3) ls (.int (f_J3_checkIndex_8e157N a0 a1) :: rest))) : W p l e R s m args below meth c H locs cells slots Q (F0 m pc ls (.null :: .int a1 :: .int a0 :: rest)) :=
  va_calli (va_runS (As := [.int a0, .int a1, .null]) (rest := rest) ⟨hx, hb, hml, hown, hts⟩ (c_J3_checkIndex_8e157N l H a0 a1 hs) (kS 3 hts hlk mS_J3_checkIndex_8e157 mN_RJ3 mY_J3_checkIndex_8e157 rfl rfl (by decide +kernel) hR) ⟨fun a U g mk q => q, fun U hU hW => ⟨rfl, hU⟩⟩ rfl rfl hz rfl (lv_room hw) hd hf) hS (fun q h1 h2 => absurd h1 (Nat.not_lt.mpr h2)) (fun q h => hA q (Nat.le_trans hS.1 h)) (fun r u t H1 locs1 ht hvm hw9 hB hz1 hk1 hS1 => by
    have e : H1 = H := by rw [← ht]; exact hB
    subst e; subst hw9
    exact k locs1 hS1)

def f_J3_checkIndex_8e157R (a0 : Int32) (a1 : Int32) : Int32 := (if a0 < 0 then 0 else (if a0 < a1 then a0 else 0))
def S_J3_checkIndex_8e157R (a0 : Int32) (a1 : Int32) : Prop := (a0 < 0 → (False)) ∧ (¬ a0 < 0 → ((a0 < a1 → (True)) ∧ (¬ a0 < a1 → (False))))
set_option maxHeartbeats 4000000 in
set_option maxRecDepth 100000 in
theorem c_J3_checkIndex_8e157R (l : Launch) (hp : Heap) (t9 : Nat) (a0 : Int32) (a1 : Int32) (hs : S_J3_checkIndex_8e157R a0 a1) : Met l yJ3_checkIndex_8e157 (mW yJ3_checkIndex_8e157 cJ3_checkIndex_8e157 3 (some .int)) { frames := 0, cells := 0, slots := 0, locals := 0 } (va_Pc [.int a0, .int a1, .ref t9] (fun U => U.heap = hp)) (va_Qi (fun (r : Int32) (_ : Unit) => r = f_J3_checkIndex_8e157R a0 a1) (fun _ t => t.heap = hp) (fun q : Nat => hp.size ≤ q)) 0 0 (fun q : Nat => hp.size ≤ q) := by
  refine Met.ofW (cc := cJ3_checkIndex_8e157) (maxL := 3) (ret := (some .int)) (by decide) rfl ?_
  intro p e s m args below meth c s₁ B hml hv
  obtain ⟨rfl, hh⟩ := hv
  have hx := B.exec
  have hb := B.bytes
  have hr := B.returns
  have hts := mW_hts (atoms_spec (ws := (mW yJ3_checkIndex_8e157 cJ3_checkIndex_8e157 3 (some .int))) B.pre)
  have hown : s.vm.findClass RJ3 = some m.cls := findClass_of_methodNamed B.named
  have hlocks := B.notSynchronized
  subst hh
  have hA : ∀ (n : Nat) (q : Nat), s.heap.size ≤ n → n ≤ q → s.heap.size ≤ q := fun n q h1 h2 => Nat.le_trans h1 h2
  have hS : va_S ((fun q : Nat => s.heap.size ≤ q)) s.heap s.heap [] := va_S.rf
  have hA : ∀ q, s.heap.size ≤ q → ((fun q : Nat => s.heap.size ≤ q)) q := fun q h => h
  unfold S_J3_checkIndex_8e157R at hs
  have hl := lv_entry ([.int a0, .int a1, .ref t9]) (n := 3) (Nat.le_of_ble_eq_true rfl)
  rw [lg_entry_eq]
  generalize (lg_sl ([.int a0, .int a1, .ref t9]) ++ List.replicate (3 - (lg_sl ([.int a0, .int a1, .ref t9])).length) Slot.unset).toArray = ls at hl ⊢
  have hl : lv_has ls 3 [(0, .int a0), (1, .int a1), (2, .ref t9)] := hl
  refine W_gen (fun Q9 hQ9 => ?_)
  refine lv_iload_n hx hb dJ3_checkIndex_8e157_0 rfl (lv_at hl 0 rfl) ?_
  refine lv_if_lt (tgt := 9) hx hb dJ3_checkIndex_8e157_1 (by decide) (fun c1 => ?_) (fun c1 => ?_)
  · have hs := hs.1 c1
    exact hs.elim
  · have hs := hs.2 c1
    refine lv_iload_n hx hb dJ3_checkIndex_8e157_4 rfl (lv_at hl 0 rfl) ?_
    refine lv_iload_n hx hb dJ3_checkIndex_8e157_5 rfl (lv_at hl 1 rfl) ?_
    refine lv_icmp_lt (tgt := 16) hx hb dJ3_checkIndex_8e157_6 (by decide) (fun c2 => ?_) (fun c2 => ?_)
    · have hs := hs.1 c2
      refine lv_iload_n hx hb dJ3_checkIndex_8e157_16 rfl (lv_at hl 0 rfl) ?_
      rw [hQ9]
      have hf : f_J3_checkIndex_8e157R a0 a1 = a0 := by simp only [f_J3_checkIndex_8e157R, if_neg c1, if_pos c2]
      exact W.iret (v := a0) hx hb hr (fun t ht hW => ⟨⟨a0, (), rfl, by rw [hf], ht⟩, hS.F ht⟩) hS.2.2 dJ3_checkIndex_8e157_17
    · have hs := hs.2 c2
      exact hs.elim
theorem q_J3_checkIndex_8e157R {p : Program} {l : Launch} {e : Env} {R : Room} {s : State} {m : MethodId} {args : Array Value} {below : List Frame} {meth : Method} {c : Code} {H : Heap} {locs : List Loc} {cells slots : Nat} {Q : State → Prop} {pc : Nat} {ls : Array Slot} {rest : List Value} {cc : ByteArray} {nL idx : Nat} {own : String} {A0 : Nat → Prop} (hx : p.tables.exec = Jvm.exec) (hb : c.code = cc) (hml : c.maxLocals = nL) (hown : s.vm.findClass own = some m.cls) (hts : ∀ w ∈ bigW, w.before args s = true) (hlk : Cond.methodLink own idx yJ3_checkIndex_8e157 ∈ bigW) (hR : 1 ≤ R.frames ∧ 22 ≤ R.locals) (hf : cells + 0 ≤ R.cells ∧ slots + 0 ≤ R.slots) (hz : ls.size = nL) (hw : (rest.map fun v => v.category).sum ≤ 8) (hS : va_S A0 s.heap H locs) (hd : decode cc pc = .ok (.invokestatic idx, 3)) (hA : ∀ q, s.heap.size ≤ q → A0 q) (t9 : Nat)  (a0 : Int32) (a1 : Int32) (hs : S_J3_checkIndex_8e157R a0 a1) (k : ∀ locs, va_S A0 s.heap H locs → W p l e R s m args below meth c H locs cells slots Q (F0 m (pc + 3) ls (.int (f_J3_checkIndex_8e157R a0 a1) :: rest))) : W p l e R s m args below meth c H locs cells slots Q (F0 m pc ls (.ref t9 :: .int a1 :: .int a0 :: rest)) :=
  va_calli (va_runS (As := [.int a0, .int a1, .ref t9]) (rest := rest) ⟨hx, hb, hml, hown, hts⟩ (c_J3_checkIndex_8e157R l H t9 a0 a1 hs) (kS 3 hts hlk mS_J3_checkIndex_8e157 mN_RJ3 mY_J3_checkIndex_8e157 rfl rfl (by decide +kernel) hR) ⟨fun a U g mk q => q, fun U hU hW => ⟨rfl, hU⟩⟩ rfl rfl hz rfl (lv_room hw) hd hf) hS (fun q h1 h2 => absurd h1 (Nat.not_lt.mpr h2)) (fun q h => hA q (Nat.le_trans hS.1 h)) (fun r u t H1 locs1 ht hvm hw9 hB hz1 hk1 hS1 => by
    have e : H1 = H := by rw [← ht]; exact hB
    subst e; subst hw9
    exact k locs1 hS1)

def S_J0_checkIndex_df160 (a0 : Int32) (a1 : Int32) : Prop := (S_J3_checkIndex_8e157R a0 a1) ∧ (True)
set_option maxHeartbeats 4000000 in
set_option maxRecDepth 100000 in
theorem c_J0_checkIndex_df160 (l : Launch) (hp : Heap) (a0 : Int32) (a1 : Int32) (hs : S_J0_checkIndex_df160 a0 a1) : Met l yJ0_checkIndex_df160 (mW yJ0_checkIndex_df160 cJ0_checkIndex_df160 2 none) { frames := 1, cells := 0, slots := 0, locals := 22 } (va_Pc [.int a0, .int a1] (fun U => U.heap = hp ∧ cxt (fun q : Nat => hp.size ≤ q) U U.heap)) (va_Qv (fun (_ : Unit) => True) (fun _ t => t.heap = hp) (fun q : Nat => hp.size ≤ q)) 0 0 (fun q : Nat => hp.size ≤ q) := by
  refine Met.ofW (cc := cJ0_checkIndex_df160) (maxL := 2) (ret := none) (by decide) rfl ?_
  intro p e s m args below meth c s₁ B hml hv
  obtain ⟨rfl, hh, hC⟩ := hv
  have hx := B.exec
  have hb := B.bytes
  have hr := B.returns
  have hts := mW_hts (atoms_spec (ws := (mW yJ0_checkIndex_df160 cJ0_checkIndex_df160 2 none)) B.pre)
  have hown : s.vm.findClass RJ0 = some m.cls := findClass_of_methodNamed B.named
  have hlocks := B.notSynchronized
  subst hh
  have hA : ∀ (n : Nat) (q : Nat), s.heap.size ≤ n → n ≤ q → s.heap.size ≤ q := fun n q h1 h2 => Nat.le_trans h1 h2
  have hS : va_S ((fun q : Nat => s.heap.size ≤ q)) s.heap s.heap [] := va_S.rf
  have hA : ∀ q, s.heap.size ≤ q → ((fun q : Nat => s.heap.size ≤ q)) q := fun q h => h
  unfold S_J0_checkIndex_df160 at hs
  have hl := lv_entry ([.int a0, .int a1]) (n := 2) (Nat.le_of_ble_eq_true rfl)
  rw [lg_entry_eq]
  generalize (lg_sl ([.int a0, .int a1]) ++ List.replicate (2 - (lg_sl ([.int a0, .int a1])).length) Slot.unset).toArray = ls at hl ⊢
  have hl : lv_has ls 2 [(0, .int a0), (1, .int a1)] := hl
  refine W_gen (fun Q9 hQ9 => ?_)
  refine lv_iload_n hx hb dJ0_checkIndex_df160_0 rfl (lv_at hl 0 rfl) ?_
  refine lv_iload_n hx hb dJ0_checkIndex_df160_1 rfl (lv_at hl 1 rfl) ?_
  rcases zq_rf hC.2.2.2.2.2.2.2.2.2.2.2.1.2 with hzc1 | ⟨t9, hzc1⟩
  · refine va_gets hx hb hzc1 hS hown (hts _ mF_RJ0_1053) (fun _ h9 => h9) dJ0_checkIndex_df160_2 ?_
    obtain ⟨h2, hs⟩ := hs
    refine q_J3_checkIndex_8e157N hx hb hml hown hts mM_RJ0_1059 ⟨Nat.le_of_ble_eq_true rfl, Nat.le_of_ble_eq_true rfl⟩ ⟨Nat.le_of_ble_eq_true rfl, Nat.le_of_ble_eq_true rfl⟩ hl.1 (Nat.le_of_ble_eq_true rfl) hS dJ0_checkIndex_df160_5 hA a0 a1 h2 (fun locs hS => ?_)
    refine lv_pop hx hb dJ0_checkIndex_df160_8 rfl ?_
    rw [hQ9]
    exact W.vret hx hb hr (fun t ht hW => ⟨⟨(), rfl, True.intro, ht⟩, hS.F ht⟩) hS.2.2 dJ0_checkIndex_df160_9
  · refine va_gets hx hb hzc1 hS hown (hts _ mF_RJ0_1053) (fun _ h9 => h9) dJ0_checkIndex_df160_2 ?_
    obtain ⟨h3, hs⟩ := hs
    refine q_J3_checkIndex_8e157R hx hb hml hown hts mM_RJ0_1059 ⟨Nat.le_of_ble_eq_true rfl, Nat.le_of_ble_eq_true rfl⟩ ⟨Nat.le_of_ble_eq_true rfl, Nat.le_of_ble_eq_true rfl⟩ hl.1 (Nat.le_of_ble_eq_true rfl) hS dJ0_checkIndex_df160_5 hA t9 a0 a1 h3 (fun locs hS => ?_)
    refine lv_pop hx hb dJ0_checkIndex_df160_8 rfl ?_
    rw [hQ9]
    exact W.vret hx hb hr (fun t ht hW => ⟨⟨(), rfl, True.intro, ht⟩, hS.F ht⟩) hS.2.2 dJ0_checkIndex_df160_9
theorem q_J0_checkIndex_df160 {p : Program} {l : Launch} {e : Env} {R : Room} {s : State} {m : MethodId} {args : Array Value} {below : List Frame} {meth : Method} {c : Code} {H : Heap} {locs : List Loc} {cells slots : Nat} {Q : State → Prop} {pc : Nat} {ls : Array Slot} {rest : List Value} {cc : ByteArray} {nL idx : Nat} {own : String} {A0 : Nat → Prop} (hx : p.tables.exec = Jvm.exec) (hb : c.code = cc) (hml : c.maxLocals = nL) (hown : s.vm.findClass own = some m.cls) (hts : ∀ w ∈ bigW, w.before args s = true) (hlk : Cond.methodLink own idx yJ0_checkIndex_df160 ∈ bigW) (hR : 2 ≤ R.frames ∧ 43 ≤ R.locals) (hf : cells + 0 ≤ R.cells ∧ slots + 0 ≤ R.slots) (hz : ls.size = nL) (hw : (rest.map fun v => v.category).sum ≤ 8) (hS : va_S A0 s.heap H locs) (hd : decode cc pc = .ok (.invokestatic idx, 3)) (hA : ∀ q, s.heap.size ≤ q → A0 q) (hC : cxt A0 s s.heap) (a0 : Int32) (a1 : Int32) (hs : S_J0_checkIndex_df160 a0 a1) (k : ∀ locs, va_S A0 s.heap H locs → W p l e R s m args below meth c H locs cells slots Q (F0 m (pc + 3) ls (rest))) : W p l e R s m args below meth c H locs cells slots Q (F0 m pc ls (.int a1 :: .int a0 :: rest)) :=
  va_callv (va_runS (As := [.int a0, .int a1]) (rest := rest) ⟨hx, hb, hml, hown, hts⟩ (c_J0_checkIndex_df160 l H a0 a1 hs) (kS 2 hts hlk mS_J0_checkIndex_df160 mN_RJ0 mY_J0_checkIndex_df160 rfl rfl (by decide +kernel) hR) ⟨fun a U g mk q => ⟨q.1, q.2.1, q.2.2.call⟩, fun U hU hW => ⟨rfl, hU, hC.here hS hU hW (fun q h => hA q (Nat.le_trans hS.1 h))⟩⟩ rfl rfl hz rfl (lv_room hw) hd hf) hS (fun q h1 h2 => absurd h1 (Nat.not_lt.mpr h2)) (fun q h => hA q (Nat.le_trans hS.1 h)) (fun u t H1 locs1 ht hvm hw9 hB hz1 hk1 hS1 => by
    have e : H1 = H := by rw [← ht]; exact hB
    subst e
    exact k locs1 hS1)

def f_J1_charAt_3b067 (bs : List Int32) (a1 : Int32) : Int32 := (((bs.getD a1.toNatClampNeg 0) &&& (255 : Int32)).toUInt32 % 65536).toInt32
def S_J1_charAt_3b067 (bs : List Int32) (a1 : Int32) : Prop := (S_J0_checkIndex_df160 a1 (Int32.ofNat bs.length)) ∧ ((vp_in a1 bs.length) ∧ (True))
set_option maxHeartbeats 4000000 in
set_option maxRecDepth 100000 in
theorem c_J1_charAt_3b067 (l : Launch) (hp : Heap) (q v : Nat) (bs : List Int32) (a1 : Int32) (hs : S_J1_charAt_3b067 bs a1) : Met l yJ1_charAt_3b067 (mW yJ1_charAt_3b067 cJ1_charAt_3b067 2 (some .char)) { frames := 2, cells := 0, slots := 0, locals := 43 } (va_Pc [.ref v, .int a1] (fun U => U.heap = hp ∧ cxt (fun q : Nat => hp.size ≤ q) U U.heap ∧ stO q v bs (fun q : Nat => hp.size ≤ q) U U.heap)) (va_Qi (fun (r : Int32) (_ : Unit) => r = f_J1_charAt_3b067 bs a1) (fun _ t => t.heap = hp) (fun q : Nat => hp.size ≤ q)) 0 0 (fun q : Nat => hp.size ≤ q) := by
  refine Met.ofW (cc := cJ1_charAt_3b067) (maxL := 2) (ret := (some .char)) (by decide) rfl ?_
  intro p e s m args below meth c s₁ B hml hv
  obtain ⟨rfl, hh, hC, hO⟩ := hv
  have hx := B.exec
  have hb := B.bytes
  have hr := B.returns
  have hts := mW_hts (atoms_spec (ws := (mW yJ1_charAt_3b067 cJ1_charAt_3b067 2 (some .char))) B.pre)
  have hown : s.vm.findClass RJ1 = some m.cls := findClass_of_methodNamed B.named
  have hlocks := B.notSynchronized
  subst hh
  have hA : ∀ (n : Nat) (q : Nat), s.heap.size ≤ n → n ≤ q → s.heap.size ≤ q := fun n q h1 h2 => Nat.le_trans h1 h2
  have hS : va_S ((fun q : Nat => s.heap.size ≤ q)) s.heap s.heap [] := va_S.rf
  have hA : ∀ q, s.heap.size ≤ q → ((fun q : Nat => s.heap.size ≤ q)) q := fun q h => h
  unfold S_J1_charAt_3b067 at hs
  have hl := lv_entry ([.ref v, .int a1]) (n := 2) (Nat.le_of_ble_eq_true rfl)
  rw [lg_entry_eq]
  generalize (lg_sl ([.ref v, .int a1]) ++ List.replicate (2 - (lg_sl ([.ref v, .int a1])).length) Slot.unset).toArray = ls at hl ⊢
  have hl : lv_has ls 2 [(0, .ref v), (1, .int a1)] := hl
  refine W_gen (fun Q9 hQ9 => ?_)
  refine lv_iload_n hx hb dJ1_charAt_3b067_0 rfl (lv_at hl 1 rfl) ?_
  refine lv_aload_n hx hb dJ1_charAt_3b067_1 rfl (lv_at hl 0 rfl) ?_
  refine va_tlen hx hb hO.2.2.2 hS (v := (Int32.ofNat bs.length)) rfl dJ1_charAt_3b067_2 ?_
  obtain ⟨h1, hs⟩ := hs
  refine q_J0_checkIndex_df160 hx hb hml hown hts mM_RJ1_9 ⟨Nat.le_of_ble_eq_true rfl, Nat.le_of_ble_eq_true rfl⟩ ⟨Nat.le_of_ble_eq_true rfl, Nat.le_of_ble_eq_true rfl⟩ hl.1 (Nat.le_of_ble_eq_true rfl) hS dJ1_charAt_3b067_3 hA hC a1 (Int32.ofNat bs.length) h1 (fun locs hS => ?_)
  refine lv_aload_n hx hb dJ1_charAt_3b067_6 rfl (lv_at hl 0 rfl) ?_
  refine lv_iload_n hx hb dJ1_charAt_3b067_7 rfl (lv_at hl 1 rfl) ?_
  obtain ⟨h2, hs⟩ := hs
  refine va_tb hx hb hO.2.2.2 hS h2 (v := .int (bs.getD a1.toNatClampNeg 0)) rfl dJ1_charAt_3b067_8 ?_
  refine lv_sipush (v := 255) hx hb dJ1_charAt_3b067_9 (by decide) ?_
  refine lv_iand hx hb dJ1_charAt_3b067_12 ?_
  refine lv_i2c hx hb dJ1_charAt_3b067_13 rfl ?_
  rw [hQ9]
  have hf : f_J1_charAt_3b067 bs a1 = (((bs.getD a1.toNatClampNeg 0) &&& (255 : Int32)).toUInt32 % 65536).toInt32 := by simp only [f_J1_charAt_3b067]
  exact W.zret (v := (((bs.getD a1.toNatClampNeg 0) &&& (255 : Int32)).toUInt32 % 65536).toInt32) (ty := .char) hx hb hr (pk_nc _) (fun t ht hW => ⟨⟨(((bs.getD a1.toNatClampNeg 0) &&& (255 : Int32)).toUInt32 % 65536).toInt32, (), rfl, by rw [hf], ht⟩, hS.F ht⟩) hS.2.2 dJ1_charAt_3b067_14
theorem q_J1_charAt_3b067 {p : Program} {l : Launch} {e : Env} {R : Room} {s : State} {m : MethodId} {args : Array Value} {below : List Frame} {meth : Method} {c : Code} {H : Heap} {locs : List Loc} {cells slots : Nat} {Q : State → Prop} {pc : Nat} {ls : Array Slot} {rest : List Value} {cc : ByteArray} {nL idx : Nat} {own : String} {A0 : Nat → Prop} (hx : p.tables.exec = Jvm.exec) (hb : c.code = cc) (hml : c.maxLocals = nL) (hown : s.vm.findClass own = some m.cls) (hts : ∀ w ∈ bigW, w.before args s = true) (hlk : Cond.methodLink own idx yJ1_charAt_3b067 ∈ bigW) (hR : 3 ≤ R.frames ∧ 64 ≤ R.locals) (hf : cells + 0 ≤ R.cells ∧ slots + 0 ≤ R.slots) (hz : ls.size = nL) (hw : (rest.map fun v => v.category).sum ≤ 8) (hS : va_S A0 s.heap H locs) (hd : decode cc pc = .ok (.invokestatic idx, 3)) (hA : ∀ q, s.heap.size ≤ q → A0 q) (hC : cxt A0 s s.heap) (q v : Nat) (bs : List Int32) (hO : stO q v bs A0 s s.heap) (a1 : Int32) (hs : S_J1_charAt_3b067 bs a1) (k : ∀ locs, va_S A0 s.heap H locs → W p l e R s m args below meth c H locs cells slots Q (F0 m (pc + 3) ls (.int (f_J1_charAt_3b067 bs a1) :: rest))) : W p l e R s m args below meth c H locs cells slots Q (F0 m pc ls (.int a1 :: .ref v :: rest)) :=
  va_calli (va_runS (As := [.ref v, .int a1]) (rest := rest) ⟨hx, hb, hml, hown, hts⟩ (c_J1_charAt_3b067 l H q v bs a1 hs) (kS 2 hts hlk mS_J1_charAt_3b067 mN_RJ1 mY_J1_charAt_3b067 rfl rfl (by decide +kernel) hR) ⟨fun a U g mk q => ⟨q.1, q.2.1, q.2.2.1.call, q.2.2.2.call⟩, fun U hU hW => ⟨rfl, hU, hC.here hS hU hW (fun q h => hA q (Nat.le_trans hS.1 h)), hO.here hS hU hW (fun q h => hA q (Nat.le_trans hS.1 h))⟩⟩ rfl rfl hz rfl (lv_room hw) hd hf) hS (fun q h1 h2 => absurd h1 (Nat.not_lt.mpr h2)) (fun q h => hA q (Nat.le_trans hS.1 h)) (fun r u t H1 locs1 ht hvm hw9 hB hz1 hk1 hS1 => by
    have e : H1 = H := by rw [← ht]; exact hB
    subst e; subst hw9
    exact k locs1 hS1)

theorem nc_ch (bs : List Int32) (i : Int32) : narrow .char (.int (f_J1_charAt_3b067 bs i)) = .int (f_J1_charAt_3b067 bs i) := pk_nc _

def f_J0_charAt_5068e (bs : List Int32) (a0 : Int32) : Int32 := (f_J1_charAt_3b067 bs a0)
def S_J0_charAt_5068e (bs : List Int32) (a0 : Int32) : Prop := (S_J1_charAt_3b067 bs a0) ∧ (True)
set_option maxHeartbeats 4000000 in
set_option maxRecDepth 100000 in
theorem c_J0_charAt_5068e (l : Launch) (hp : Heap) (q v : Nat) (bs : List Int32) (a0 : Int32) (hs : S_J0_charAt_5068e bs a0) : Met l yJ0_charAt_5068e (mW yJ0_charAt_5068e cJ0_charAt_5068e 2 (some .char)) { frames := 3, cells := 0, slots := 0, locals := 64 } (va_Pc [.ref q, .int a0] (fun U => U.heap = hp ∧ cxt (fun q : Nat => hp.size ≤ q) U U.heap ∧ stO q v bs (fun q : Nat => hp.size ≤ q) U U.heap)) (va_Qi (fun (r : Int32) (_ : Unit) => r = f_J0_charAt_5068e bs a0) (fun _ t => t.heap = hp) (fun q : Nat => hp.size ≤ q)) 0 0 (fun q : Nat => hp.size ≤ q) := by
  refine Met.ofW (cc := cJ0_charAt_5068e) (maxL := 2) (ret := (some .char)) (by decide) rfl ?_
  intro p e s m args below meth c s₁ B hml hv
  obtain ⟨rfl, hh, hC, hO⟩ := hv
  have hx := B.exec
  have hb := B.bytes
  have hr := B.returns
  have hts := mW_hts (atoms_spec (ws := (mW yJ0_charAt_5068e cJ0_charAt_5068e 2 (some .char))) B.pre)
  have hown : s.vm.findClass RJ0 = some m.cls := findClass_of_methodNamed B.named
  have hlocks := B.notSynchronized
  subst hh
  have hA : ∀ (n : Nat) (q : Nat), s.heap.size ≤ n → n ≤ q → s.heap.size ≤ q := fun n q h1 h2 => Nat.le_trans h1 h2
  have hS : va_S ((fun q : Nat => s.heap.size ≤ q)) s.heap s.heap [] := va_S.rf
  have hA : ∀ q, s.heap.size ≤ q → ((fun q : Nat => s.heap.size ≤ q)) q := fun q h => h
  unfold S_J0_charAt_5068e at hs
  have hl := lv_entry ([.ref q, .int a0]) (n := 2) (Nat.le_of_ble_eq_true rfl)
  rw [lg_entry_eq]
  generalize (lg_sl ([.ref q, .int a0]) ++ List.replicate (2 - (lg_sl ([.ref q, .int a0])).length) Slot.unset).toArray = ls at hl ⊢
  have hl : lv_has ls 2 [(0, .ref q), (1, .int a0)] := hl
  refine W_gen (fun Q9 hQ9 => ?_)
  refine lv_aload_n hx hb dJ0_charAt_5068e_0 rfl (lv_at hl 0 rfl) ?_
  refine q_J0_isLatin1_aae02 hx hb hml hown hts mM_RJ0_492 ⟨Nat.le_of_ble_eq_true rfl, Nat.le_of_ble_eq_true rfl⟩ ⟨Nat.le_of_ble_eq_true rfl, Nat.le_of_ble_eq_true rfl⟩ hl.1 (Nat.le_of_ble_eq_true rfl) hS dJ0_charAt_5068e_1 hA hC q v bs hO (fun locs hS => ?_)
  refine lv_if_eq (tgt := 16) hx hb dJ0_charAt_5068e_4 (by decide) (fun c1 => ?_) (fun c1 => ?_)
  · exact absurd c1 (by decide)
  · refine lv_aload_n hx hb dJ0_charAt_5068e_7 rfl (lv_at hl 0 rfl) ?_
    refine vk_getf hx hb hO.2.2.1 hS hown (hts _ mF_RJ0_9) (fun _ h9 => h9) dJ0_charAt_5068e_8 ?_
    refine lv_iload_n hx hb dJ0_charAt_5068e_11 rfl (lv_at hl 1 rfl) ?_
    obtain ⟨h2, hs⟩ := hs
    refine q_J1_charAt_3b067 hx hb hml hown hts mM_RJ0_495 ⟨Nat.le_of_ble_eq_true rfl, Nat.le_of_ble_eq_true rfl⟩ ⟨Nat.le_of_ble_eq_true rfl, Nat.le_of_ble_eq_true rfl⟩ hl.1 (Nat.le_of_ble_eq_true rfl) hS dJ0_charAt_5068e_12 hA hC q v bs hO a0 h2 (fun locs hS => ?_)
    rw [hQ9]
    have hf : f_J0_charAt_5068e bs a0 = (f_J1_charAt_3b067 bs a0) := by simp only [f_J0_charAt_5068e]
    exact W.zret (v := (f_J1_charAt_3b067 bs a0)) (ty := .char) hx hb hr (nc_ch _ _) (fun t ht hW => ⟨⟨(f_J1_charAt_3b067 bs a0), (), rfl, by rw [hf], ht⟩, hS.F ht⟩) hS.2.2 dJ0_charAt_5068e_15
theorem q_J0_charAt_5068e {p : Program} {l : Launch} {e : Env} {R : Room} {s : State} {m : MethodId} {args : Array Value} {below : List Frame} {meth : Method} {c : Code} {H : Heap} {locs : List Loc} {cells slots : Nat} {Q : State → Prop} {pc : Nat} {ls : Array Slot} {rest : List Value} {cc : ByteArray} {nL idx : Nat} {own : String} {A0 : Nat → Prop} (hx : p.tables.exec = Jvm.exec) (hb : c.code = cc) (hml : c.maxLocals = nL) (hown : s.vm.findClass own = some m.cls) (hts : ∀ w ∈ bigW, w.before args s = true) (hlk : Cond.methodLink own idx yJ0_charAt_5068e ∈ bigW) (hR : 4 ≤ R.frames ∧ 85 ≤ R.locals) (hf : cells + 0 ≤ R.cells ∧ slots + 0 ≤ R.slots) (hz : ls.size = nL) (hw : (rest.map fun v => v.category).sum ≤ 8) (hS : va_S A0 s.heap H locs) (hd : decode cc pc = .ok (.invokevirtual idx, 3)) (hA : ∀ q, s.heap.size ≤ q → A0 q) (hC : cxt A0 s s.heap) (q v : Nat) (bs : List Int32) (hO : stO q v bs A0 s s.heap) (a0 : Int32) (hs : S_J0_charAt_5068e bs a0) (k : ∀ locs, va_S A0 s.heap H locs → W p l e R s m args below meth c H locs cells slots Q (F0 m (pc + 3) ls (.int (f_J0_charAt_5068e bs a0) :: rest))) : W p l e R s m args below meth c H locs cells slots Q (F0 m pc ls (.int a0 :: .ref q :: rest)) :=
  va_calli (va_runV (As := [.int a0]) (rest := rest) ⟨hx, hb, hml, hown, hts⟩ (c_J0_charAt_5068e l H q v bs a0 hs) (kV 1 hts hlk mI_J0_charAt_5068e mN_RJ0 mY_J0_charAt_5068e mV_J0_charAt_5068e rfl rfl (by decide +kernel) hR) ⟨fun a U g mk q => ⟨q.1, q.2.1, q.2.2.1.call, q.2.2.2.call⟩, (by obtain ⟨c9, h1, h2, h3, -⟩ := hO.1.kept hS.2.1; exact ⟨c9, h1, h2, h3⟩), fun U hU hW => ⟨rfl, hU, hC.here hS hU hW (fun q h => hA q (Nat.le_trans hS.1 h)), hO.here hS hU hW (fun q h => hA q (Nat.le_trans hS.1 h))⟩⟩ rfl rfl hz rfl (lv_room hw) hd hf) hS (fun q h1 h2 => absurd h1 (Nat.not_lt.mpr h2)) (fun q h => hA q (Nat.le_trans hS.1 h)) (fun r u t H1 locs1 ht hvm hw9 hB hz1 hk1 hS1 => by
    have e : H1 = H := by rw [← ht]; exact hB
    subst e; subst hw9
    exact k locs1 hS1)

def L_X4_writeText_2 : Nat → Int32 → (Nat → Int32) → Int32 → List Int32 → Int32 × (Nat → Int32) × Int32
  | 0, x2, Ss, Sm, bs => (x2, Ss, Sm)
  | n + 1, x2, Ss, Sm, bs => (if (f_J0_length_8abf5 bs) ≤ x2 then (x2, Ss, Sm) else (let u4 := f_X4_write (f_J0_charAt_5068e bs x2) Ss Sm; L_X4_writeText_2 n (x2 + 1) u4.1 u4.2 bs))
def SL_X4_writeText_2 : Nat → Int32 → (Nat → Int32) → Int32 → List Int32 → Prop
  | 0, _, _, _, _ => False
  | n + 1, x2, Ss, Sm, bs => ((f_J0_length_8abf5 bs) ≤ x2 → (True)) ∧ (¬ (f_J0_length_8abf5 bs) ≤ x2 → ((S_J0_charAt_5068e bs x2) ∧ ((S_X4_write (f_J0_charAt_5068e bs x2) Ss Sm) ∧ (∀ u4, u4 = f_X4_write (f_J0_charAt_5068e bs x2) Ss Sm → (SL_X4_writeText_2 n (x2 + 1) u4.1 u4.2 bs)))))
def f_X4_writeText (bs : List Int32) (Ss : Nat → Int32) (Sm : Int32) : (Nat → Int32) × Int32 := (let u1 := L_X4_writeText_2 22 (0 : Int32) Ss Sm bs; (u1.2.1, u1.2.2))
def S_X4_writeText (bs : List Int32) (Ss : Nat → Int32) (Sm : Int32) : Prop := (SL_X4_writeText_2 22 (0 : Int32) Ss Sm bs) ∧ (∀ u1, u1 = L_X4_writeText_2 22 (0 : Int32) Ss Sm bs → (True))
set_option maxHeartbeats 4000000 in
set_option maxRecDepth 100000 in
theorem c_X4_writeText (l : Launch) (dC : Nat → ClassId) (dI : Nat → Nat → Nat) (cI cJ : ClassId) (ad : Nat → Nat) (hi : fI 23 ad) (sz : Nat) (Bc : Nat → Int64) (Bl : Nat → Int32) (Pk : Nat → Int32) (Pr : Nat → Int32) (Pl : Nat → Int32) (Pc : Nat → Int64) (Pm : Int32) (Gf : Nat → Int32) (Gt : Nat → Int32) (Gx : Nat → Int32) (Gd : Int32) (Gm : Int32) (Ek : Nat → Int32) (Er : Nat → Int32) (Ea : Nat → Int32) (Ex : Nat → Int32) (Em : Int32) (Eb : Int32) (Et : Int32) (Ss : Nat → Int32) (Sm : Int32) (Wg : Nat → Int64) (Wr : Nat → Int64) (Md : Nat → Int64) (q v : Nat) (bs : List Int32) (hs : S_X4_writeText bs Ss Sm) : Met l yX4_writeText (mW yX4_writeText cX4_writeText 3 none) { frames := 4, cells := 0, slots := 0, locals := 85 } (va_Pc [.ref (ad 18), .ref q] (fun U => U.heap.size = sz ∧ va_P (dC, dI) vwCl (wC ad cI cJ Bc Bl Pk Pr Pl Pc Pm Gf Gt Gx Gd Gm Ek Er Ea Ex Em Eb Et Ss Sm Wg Wr Md) U.heap ∧ va_K (dC, dI) vwCl [(cI, .int), (cJ, .long)] U ∧ cxt (fA 23 ad sz) U U.heap ∧ stO q v bs (fA 23 ad sz) U U.heap)) (va_Qv (fun (_ : Unit) => True) (fun _ t => va_P (dC, dI) vwCl (wC ad cI cJ Bc Bl Pk Pr Pl Pc Pm Gf Gt Gx Gd Gm Ek Er Ea Ex Em Eb Et ((f_X4_writeText bs Ss Sm).1) ((f_X4_writeText bs Ss Sm).2) Wg Wr Md) t.heap) (fA 23 ad sz)) 0 0 (fA 23 ad sz) := by
  refine Met.ofW (cc := cX4_writeText) (maxL := 3) (ret := none) (by decide) rfl ?_
  intro p e s m args below meth c s₁ B hml hv
  obtain ⟨rfl, hsz, hP, hK, hC, hO⟩ := hv
  have hx := B.exec
  have hb := B.bytes
  have hr := B.returns
  have hts := mW_hts (atoms_spec (ws := (mW yX4_writeText cX4_writeText 3 none)) B.pre)
  have hown : s.vm.findClass RX4 = some m.cls := findClass_of_methodNamed B.named
  have hlocks := B.notSynchronized
  subst hsz
  have hA : ∀ (n : Nat) (q : Nat), s.heap.size ≤ n → n ≤ q → fA 23 ad s.heap.size q := fun n q h1 h2 => Or.inr (Nat.le_trans h1 h2)
  have hS : va_S (fA 23 ad s.heap.size) s.heap s.heap [] := va_S.rf
  have hA : ∀ q, s.heap.size ≤ q → (fA 23 ad s.heap.size) q := fun q h => Or.inr h
  unfold S_X4_writeText at hs
  have hl := lv_entry ([.ref (ad 18), .ref q]) (n := 3) (Nat.le_of_ble_eq_true rfl)
  rw [lg_entry_eq]
  generalize (lg_sl ([.ref (ad 18), .ref q]) ++ List.replicate (3 - (lg_sl ([.ref (ad 18), .ref q])).length) Slot.unset).toArray = ls at hl ⊢
  have hl : lv_has ls 3 [(0, .ref (ad 18)), (1, .ref q)] := hl
  refine W_gen (fun Q9 hQ9 => ?_)
  refine lv_iconst (v := 0) hx hb dX4_writeText_0 (by decide) ?_
  refine lv_istore_n (lv' := [(2, .int (0 : Int32)), (0, .ref (ad 18)), (1, .ref q)]) hx hb dX4_writeText_1 rfl hl (by decide) rfl (fun ls hl => ?_)
  obtain ⟨h2, hs⟩ := hs
  obtain ⟨u1, hu1⟩ : ∃ z, z = L_X4_writeText_2 22 (0 : Int32) Ss Sm bs := ⟨_, rfl⟩
  have hs := hs u1 hu1
  have hex3 : ∀ (H : Heap) (locs : List Loc) (ls : Array Slot), va_P (dC, dI) vwCl (wC ad cI cJ Bc Bl Pk Pr Pl Pc Pm Gf Gt Gx Gd Gm Ek Er Ea Ex Em Eb Et u1.2.1 u1.2.2 Wg Wr Md) H → va_S (fA 23 ad s.heap.size) s.heap H locs → lv_has ls 3 [(2, .int u1.1), (0, .ref (ad 18)), (1, .ref q)] → W p l e (headSpec (mW yX4_writeText cX4_writeText 3 none) { frames := 4, cells := 0, slots := 0, locals := 85 }).room s m ([.ref (ad 18), .ref q] : List Value).toArray below meth c H locs 0 0 Q9 (F0 m 25 ls []) := by
    intro H locs ls hP hS hl
    rw [hQ9]
    have hf : f_X4_writeText bs Ss Sm = (u1.2.1, u1.2.2) := by simp only [f_X4_writeText, ← hu1]
    exact W.vret hx hb hr (fun t ht hW => ⟨⟨(), rfl, True.intro, by rw [hf]; show va_P (dC, dI) vwCl _ t.heap; rw [ht]; exact hP⟩, hS.F ht⟩) hS.2.2 dX4_writeText_25
  have hlp4 : ∀ (n : Nat) (x2v : Int32) (Ssv : Nat → Int32) (Smv : Int32) (H : Heap) (locs : List Loc) (ls : Array Slot), SL_X4_writeText_2 n x2v Ssv Smv bs → u1 = L_X4_writeText_2 n x2v Ssv Smv bs → va_P (dC, dI) vwCl (wC ad cI cJ Bc Bl Pk Pr Pl Pc Pm Gf Gt Gx Gd Gm Ek Er Ea Ex Em Eb Et Ssv Smv Wg Wr Md) H → va_S (fA 23 ad s.heap.size) s.heap H locs → lv_has ls 3 [(2, .int x2v), (0, .ref (ad 18)), (1, .ref q)] → W p l e (headSpec (mW yX4_writeText cX4_writeText 3 none) { frames := 4, cells := 0, slots := 0, locals := 85 }).room s m ([.ref (ad 18), .ref q] : List Value).toArray below meth c H locs 0 0 Q9 (F0 m 2 ls []) := by
    intro n
    induction n with
    | zero => intro x2v Ssv Smv H locs ls hs; rw [SL_X4_writeText_2] at hs; exact hs.elim
    | succ n ih =>
      intro x2v Ssv Smv H locs ls hs hq5 hP hS hl
      rw [SL_X4_writeText_2] at hs
      refine lv_iload_n hx hb dX4_writeText_2 rfl (lv_at hl 0 rfl) ?_
      refine lv_aload_n hx hb dX4_writeText_3 rfl (lv_at hl 2 rfl) ?_
      refine q_J0_length_8abf5 hx hb hml hown hts mM_RX4_19 ⟨Nat.le_of_ble_eq_true rfl, Nat.le_of_ble_eq_true rfl⟩ ⟨Nat.le_of_ble_eq_true rfl, Nat.le_of_ble_eq_true rfl⟩ hl.1 (Nat.le_of_ble_eq_true rfl) hS dX4_writeText_4 hA hC q v bs hO (fun locs hS => ?_)
      refine lv_icmp_ge (tgt := 25) hx hb dX4_writeText_7 (by decide) (fun c6 => ?_) (fun c6 => ?_)
      · have hs := hs.1 c6
        have he7 : u1 = (x2v, Ssv, Smv) := by rw [hq5, L_X4_writeText_2]; simp only [if_pos c6, ↓reduceIte]
        exact hex3 _ _ _ (by first | exact hP | (rw [he7]; exact hP)) hS (by first | exact lv_sub hl [0, 1, 2] rfl | (rw [he7]; exact lv_sub hl [0, 1, 2] rfl))
      · have hs := hs.2 c6
        refine lv_aload_n hx hb dX4_writeText_10 rfl (lv_at hl 1 rfl) ?_
        refine lv_aload_n hx hb dX4_writeText_11 rfl (lv_at hl 2 rfl) ?_
        refine lv_iload_n hx hb dX4_writeText_12 rfl (lv_at hl 0 rfl) ?_
        obtain ⟨h8, hs⟩ := hs
        refine q_J0_charAt_5068e hx hb hml hown hts mM_RX4_25 ⟨Nat.le_of_ble_eq_true rfl, Nat.le_of_ble_eq_true rfl⟩ ⟨Nat.le_of_ble_eq_true rfl, Nat.le_of_ble_eq_true rfl⟩ hl.1 (Nat.le_of_ble_eq_true rfl) hS dX4_writeText_13 hA hC q v bs hO x2v h8 (fun locs hS => ?_)
        obtain ⟨h9, hs⟩ := hs
        obtain ⟨u10, hu10⟩ : ∃ z, z = f_X4_write (f_J0_charAt_5068e bs x2v) Ssv Smv := ⟨_, rfl⟩
        have hs := hs u10 hu10
        refine q_X4_write hx hb hml hown hts mM_RX4_29 ⟨Nat.le_of_ble_eq_true rfl, Nat.le_of_ble_eq_true rfl⟩ ⟨Nat.le_of_ble_eq_true rfl, Nat.le_of_ble_eq_true rfl⟩ hl.1 (Nat.le_of_ble_eq_true rfl) hS dX4_writeText_16 (fun _ h9 => fA_mono hS.1 h9) hi hK hP (f_J0_charAt_5068e bs x2v) h9 u10 hu10 (fun H locs hP hS => ?_)
        refine lv_iinc (v := (x2v + 1)) (lv' := [(2, .int (x2v + 1)), (0, .ref (ad 18)), (1, .ref q)]) hx hb dX4_writeText_19 hl (k := 0) rfl rfl (by decide) rfl (fun ls hl => ?_)
        refine lv_goto (tgt := 2) hx hb dX4_writeText_22 (by decide) ?_
        exact ih (x2v + 1) u10.1 u10.2 _ _ _ hs (by rw [hq5, L_X4_writeText_2]; simp only [if_neg c6, ← hu10, ↓reduceIte]) hP hS (lv_sub hl [0, 1, 2] rfl)
  exact hlp4 22 (0 : Int32) Ss Sm _ _ _ h2 hu1 hP hS (lv_sub hl [0, 1, 2] rfl)
theorem q_X4_writeText {p : Program} {l : Launch} {e : Env} {R : Room} {s : State} {m : MethodId} {args : Array Value} {below : List Frame} {meth : Method} {c : Code} {H : Heap} {locs : List Loc} {cells slots : Nat} {Q : State → Prop} {pc : Nat} {ls : Array Slot} {rest : List Value} {cc : ByteArray} {nL idx : Nat} {own : String} {A0 : Nat → Prop} {dC : Nat → ClassId} {dI : Nat → Nat → Nat} {cI cJ : ClassId} {ad : Nat → Nat} {Bc : Nat → Int64} {Bl : Nat → Int32} {Pk : Nat → Int32} {Pr : Nat → Int32} {Pl : Nat → Int32} {Pc : Nat → Int64} {Pm : Int32} {Gf : Nat → Int32} {Gt : Nat → Int32} {Gx : Nat → Int32} {Gd : Int32} {Gm : Int32} {Ek : Nat → Int32} {Er : Nat → Int32} {Ea : Nat → Int32} {Ex : Nat → Int32} {Em : Int32} {Eb : Int32} {Et : Int32} {Ss : Nat → Int32} {Sm : Int32} {Wg : Nat → Int64} {Wr : Nat → Int64} {Md : Nat → Int64} (hx : p.tables.exec = Jvm.exec) (hb : c.code = cc) (hml : c.maxLocals = nL) (hown : s.vm.findClass own = some m.cls) (hts : ∀ w ∈ bigW, w.before args s = true) (hlk : Cond.methodLink own idx yX4_writeText ∈ bigW) (hR : 5 ≤ R.frames ∧ 107 ≤ R.locals) (hf : cells + 0 ≤ R.cells ∧ slots + 0 ≤ R.slots) (hz : ls.size = nL) (hw : (rest.map fun v => v.category).sum ≤ 8) (hS : va_S A0 s.heap H locs) (hd : decode cc pc = .ok (.invokevirtual idx, 3)) (hA : ∀ q, fA 23 ad H.size q → A0 q) (hi : fI 23 ad) (hK : va_K (dC, dI) vwCl [(cI, .int), (cJ, .long)] s) (hP : va_P (dC, dI) vwCl (wC ad cI cJ Bc Bl Pk Pr Pl Pc Pm Gf Gt Gx Gd Gm Ek Er Ea Ex Em Eb Et Ss Sm Wg Wr Md) H) (hC : cxt A0 s s.heap) (q v : Nat) (bs : List Int32) (hO : stO q v bs A0 s s.heap) (hs : S_X4_writeText bs Ss Sm)  (u : (Nat → Int32) × Int32) (hu : u = f_X4_writeText bs Ss Sm) (k : ∀ (H1 : Heap) (locs1 : List Loc), va_P (dC, dI) vwCl (wC ad cI cJ Bc Bl Pk Pr Pl Pc Pm Gf Gt Gx Gd Gm Ek Er Ea Ex Em Eb Et u.1 u.2 Wg Wr Md) H1 → va_S A0 s.heap H1 locs1 → W p l e R s m args below meth c H1 locs1 (cells + 0) (slots + 0) Q (F0 m (pc + 3) ls (rest))) : W p l e R s m args below meth c H locs cells slots Q (F0 m pc ls (.ref q :: .ref (ad 18) :: rest)) := by
  subst hu
  exact va_callv (va_runV (As := [.ref q]) (rest := rest) ⟨hx, hb, hml, hown, hts⟩ (c_X4_writeText l dC dI cI cJ ad hi H.size Bc Bl Pk Pr Pl Pc Pm Gf Gt Gx Gd Gm Ek Er Ea Ex Em Eb Et Ss Sm Wg Wr Md q v bs hs) (kV 1 hts hlk mI_X4_writeText mN_RX4 mY_X4_writeText mV_X4_writeText rfl rfl (by decide +kernel) hR) ⟨fun a U g mk q => ⟨q.1, q.2.1, q.2.2.1, va_K.moved (u := U) (U := U.calling g mk a) (Vm.Alike.refl U.vm) q.2.2.2.1, q.2.2.2.2.1.call, q.2.2.2.2.2.call⟩, va_recv hK hP (ci := 6) (q0 := 18) rfl rfl, fun U hU hW => ⟨rfl, by rw [hU], by rw [hU]; exact hP, va_K.moved hW.alike hK, hC.here hS hU hW hA, hO.here hS hU hW hA⟩⟩ rfl rfl hz rfl (lv_room hw) hd hf) hS (fun q _ h => hA q h) (fun q h => hA q h) (fun u t H1 locs1 ht hvm hw9 hB hz1 hk1 hS1 => by
    skip
    exact k H1 locs1 (by rw [← ht]; exact hB) hS1)
