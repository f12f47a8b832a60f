def f_X6_in (a0 : Int64) (a1 : Int64) (a2 : Int64) : Int32 := (if a0 < a1 then (0 : Int32) else (if a2 < a0 then (0 : Int32) else (1 : Int32)))
set_option maxHeartbeats 4000000 in
set_option maxRecDepth 100000 in
theorem c_X6_in (l : Launch) (hp : Heap) (a0 : Int64) (a1 : Int64) (a2 : Int64) : Met l yX6_in (mW yX6_in cX6_in 6 (some .boolean)) { frames := 0, cells := 0, slots := 0, locals := 0 } (va_Pc [.long a0, .long a1, .long a2] (fun U => U.heap = hp)) (va_Qi (fun (r : Int32) (_ : Unit) => r = f_X6_in a0 a1 a2) (fun _ t => t.heap = hp) (fun q : Nat => hp.size ≤ q)) 0 0 (fun q : Nat => hp.size ≤ q) := by
  refine Met.ofW (cc := cX6_in) (maxL := 6) (ret := (some .boolean)) (by decide) rfl ?_
  intro p e s m args below meth c s₁ B hml hv
  obtain ⟨rfl, hh⟩ := hv
  have hx := B.exec
  have hb := B.bytes
  have hr := B.returns
  have hts := mW_hts (atoms_spec (ws := (mW yX6_in cX6_in 6 (some .boolean))) B.pre)
  have hown : s.vm.findClass RX6 = some m.cls := findClass_of_methodNamed B.named
  have hlocks := B.notSynchronized
  subst hh
  have hA : ∀ (n : Nat) (q : Nat), s.heap.size ≤ n → n ≤ q → s.heap.size ≤ q := fun n q h1 h2 => Nat.le_trans h1 h2
  have hS : va_S ((fun q : Nat => s.heap.size ≤ q)) s.heap s.heap [] := va_S.rf
  have hA : ∀ q, s.heap.size ≤ q → ((fun q : Nat => s.heap.size ≤ q)) q := fun q h => h
  have hl := lv_entry ([.long a0, .long a1, .long a2]) (n := 6) (Nat.le_of_ble_eq_true rfl)
  rw [lg_entry_eq]
  generalize (lg_sl ([.long a0, .long a1, .long a2]) ++ List.replicate (6 - (lg_sl ([.long a0, .long a1, .long a2])).length) Slot.unset).toArray = ls at hl ⊢
  have hl : lv_has ls 6 [(0, .long a0), (2, .long a1), (4, .long a2)] := hl
  refine W_gen (fun Q9 hQ9 => ?_)
  refine lv_lload_n hx hb dX6_in_0 rfl (lv_at hl 0 rfl) ?_
  refine lv_lload_n hx hb dX6_in_1 rfl (lv_at hl 1 rfl) ?_
  refine W.lcmp hx hb dX6_in_2 ?_
  refine lv_if_lt (tgt := 17) hx hb dX6_in_3 (by decide) (fun c1 => ?_) (fun c1 => ?_)
  · have c1 : a0 < a1 := lc_lt.mp c1
    refine lv_iconst (v := 0) hx hb dX6_in_17 (by decide) ?_
    rw [hQ9]
    have hf : f_X6_in a0 a1 a2 = (0 : Int32) := by simp only [f_X6_in, if_pos c1]
    exact W.zret (v := (0 : Int32)) (ty := .boolean) hx hb hr (rfl) (fun t ht hW => ⟨⟨(0 : Int32), (), rfl, by rw [hf], ht⟩, hS.F ht⟩) hS.2.2 dX6_in_18
  · have c1 : ¬ a0 < a1 := fun z => c1 (lc_lt.mpr z)
    refine lv_lload_n hx hb dX6_in_6 rfl (lv_at hl 0 rfl) ?_
    refine lv_lload hx hb dX6_in_7 (lv_at hl 2 rfl) ?_
    refine W.lcmp hx hb dX6_in_9 ?_
    refine lv_if_gt (tgt := 17) hx hb dX6_in_10 (by decide) (fun c2 => ?_) (fun c2 => ?_)
    · have c2 : a2 < a0 := lc_gt.mp c2
      refine lv_iconst (v := 0) hx hb dX6_in_17 (by decide) ?_
      rw [hQ9]
      have hf : f_X6_in a0 a1 a2 = (0 : Int32) := by simp only [f_X6_in, if_neg c1, if_pos c2]
      exact W.zret (v := (0 : Int32)) (ty := .boolean) hx hb hr (rfl) (fun t ht hW => ⟨⟨(0 : Int32), (), rfl, by rw [hf], ht⟩, hS.F ht⟩) hS.2.2 dX6_in_18
    · have c2 : ¬ a2 < a0 := fun z => c2 (lc_gt.mpr z)
      refine lv_iconst (v := 1) hx hb dX6_in_13 (by decide) ?_
      refine lv_goto (tgt := 18) hx hb dX6_in_14 (by decide) ?_
      rw [hQ9]
      have hf : f_X6_in a0 a1 a2 = (1 : Int32) := by simp only [f_X6_in, if_neg c1, if_neg c2]
      exact W.zret (v := (1 : Int32)) (ty := .boolean) hx hb hr (rfl) (fun t ht hW => ⟨⟨(1 : Int32), (), rfl, by rw [hf], ht⟩, hS.F ht⟩) hS.2.2 dX6_in_18
theorem q_X6_in {p : Program} {l : Launch} {e : Env} {R : Room} {s : State} {m : MethodId} {args : Array Value} {below : List Frame} {meth : Method} {c : Code} {H : Heap} {locs : List Loc} {cells slots : Nat} {Q : State → Prop} {pc : Nat} {ls : Array Slot} {rest : List Value} {cc : ByteArray} {nL idx : Nat} {own : String} {A0 : Nat → Prop} (hx : p.tables.exec = Jvm.exec) (hb : c.code = cc) (hml : c.maxLocals = nL) (hown : s.vm.findClass own = some m.cls) (hts : ∀ w ∈ bigW, w.before args s = true) (hlk : Cond.methodLink own idx yX6_in ∈ bigW) (hR : 1 ≤ R.frames ∧ 25 ≤ R.locals) (hf : cells + 0 ≤ R.cells ∧ slots + 0 ≤ R.slots) (hz : ls.size = nL) (hw : (rest.map fun v => v.category).sum ≤ 8) (hS : va_S A0 s.heap H locs) (hd : decode cc pc = .ok (.invokestatic idx, 3)) (hA : ∀ q, s.heap.size ≤ q → A0 q) (a0 : Int64) (a1 : Int64) (a2 : Int64) (k : ∀ locs, va_S A0 s.heap H locs → W p l e R s m args below meth c H locs cells slots Q (F0 m (pc + 3) ls (.int (f_X6_in a0 a1 a2) :: rest))) : W p l e R s m args below meth c H locs cells slots Q (F0 m pc ls (.long a2 :: .long a1 :: .long a0 :: rest)) :=
  va_calli (va_runS (As := [.long a0, .long a1, .long a2]) (rest := rest) ⟨hx, hb, hml, hown, hts⟩ (c_X6_in l H a0 a1 a2) (kS 3 hts hlk mS_X6_in mN_RX6 mY_X6_in rfl rfl (by decide +kernel) hR) ⟨fun a U g mk q => q, fun U hU hW => ⟨rfl, hU⟩⟩ rfl rfl hz rfl (lv_room hw) hd hf) hS (fun q h1 h2 => absurd h1 (Nat.not_lt.mpr h2)) (fun q h => hA q (Nat.le_trans hS.1 h)) (fun r u t H1 locs1 ht hvm hw9 hB hz1 hk1 hS1 => by
    have e : H1 = H := by rw [← ht]; exact hB
    subst e; subst hw9
    exact k locs1 hS1)

theorem nb_in (v a b : Int64) : narrow .boolean (.int (f_X6_in v a b)) = .int (f_X6_in v a b) := by unfold f_X6_in; exact nb_if rfl (nb_if rfl rfl)

def f_X6_isKind (a0 : Int32) : Int32 := (f_X6_in a0.toInt64 (0 : Int64) (4 : Int64))
set_option maxHeartbeats 4000000 in
set_option maxRecDepth 100000 in
theorem c_X6_isKind (l : Launch) (hp : Heap) (a0 : Int32) : Met l yX6_isKind (mW yX6_isKind cX6_isKind 1 (some .boolean)) { frames := 1, cells := 0, slots := 0, locals := 25 } (va_Pc [.int a0] (fun U => U.heap = hp)) (va_Qi (fun (r : Int32) (_ : Unit) => r = f_X6_isKind a0) (fun _ t => t.heap = hp) (fun q : Nat => hp.size ≤ q)) 0 0 (fun q : Nat => hp.size ≤ q) := by
  refine Met.ofW (cc := cX6_isKind) (maxL := 1) (ret := (some .boolean)) (by decide) rfl ?_
  intro p e s m args below meth c s₁ B hml hv
  obtain ⟨rfl, hh⟩ := hv
  have hx := B.exec
  have hb := B.bytes
  have hr := B.returns
  have hts := mW_hts (atoms_spec (ws := (mW yX6_isKind cX6_isKind 1 (some .boolean))) B.pre)
  have hown : s.vm.findClass RX6 = some m.cls := findClass_of_methodNamed B.named
  have hlocks := B.notSynchronized
  subst hh
  have hA : ∀ (n : Nat) (q : Nat), s.heap.size ≤ n → n ≤ q → s.heap.size ≤ q := fun n q h1 h2 => Nat.le_trans h1 h2
  have hS : va_S ((fun q : Nat => s.heap.size ≤ q)) s.heap s.heap [] := va_S.rf
  have hA : ∀ q, s.heap.size ≤ q → ((fun q : Nat => s.heap.size ≤ q)) q := fun q h => h
  have hl := lv_entry ([.int a0]) (n := 1) (Nat.le_of_ble_eq_true rfl)
  rw [lg_entry_eq]
  generalize (lg_sl ([.int a0]) ++ List.replicate (1 - (lg_sl ([.int a0])).length) Slot.unset).toArray = ls at hl ⊢
  have hl : lv_has ls 1 [(0, .int a0)] := hl
  refine W_gen (fun Q9 hQ9 => ?_)
  refine lv_iload_n hx hb dX6_isKind_0 rfl (lv_at hl 0 rfl) ?_
  refine lv_i2l hx hb dX6_isKind_1 rfl ?_
  refine lv_lconst (v := 0) hx hb dX6_isKind_2 (by decide) ?_
  refine lv_ldc2 hx hb hown (hts _ mK_RX6_65) dX6_isKind_3 ?_
  refine q_X6_in hx hb hml hown hts mM_RX6_67 ⟨Nat.le_of_ble_eq_true rfl, Nat.le_of_ble_eq_true rfl⟩ ⟨Nat.le_of_ble_eq_true rfl, Nat.le_of_ble_eq_true rfl⟩ hl.1 (Nat.le_of_ble_eq_true rfl) hS dX6_isKind_6 hA a0.toInt64 (0 : Int64) (4 : Int64) (fun locs hS => ?_)
  rw [hQ9]
  have hf : f_X6_isKind a0 = (f_X6_in a0.toInt64 (0 : Int64) (4 : Int64)) := by simp only [f_X6_isKind]
  exact W.zret (v := (f_X6_in a0.toInt64 (0 : Int64) (4 : Int64))) (ty := .boolean) hx hb hr (nb_in _ _ _) (fun t ht hW => ⟨⟨(f_X6_in a0.toInt64 (0 : Int64) (4 : Int64)), (), rfl, by rw [hf], ht⟩, hS.F ht⟩) hS.2.2 dX6_isKind_9
theorem q_X6_isKind {p : Program} {l : Launch} {e : Env} {R : Room} {s : State} {m : MethodId} {args : Array Value} {below : List Frame} {meth : Method} {c : Code} {H : Heap} {locs : List Loc} {cells slots : Nat} {Q : State → Prop} {pc : Nat} {ls : Array Slot} {rest : List Value} {cc : ByteArray} {nL idx : Nat} {own : String} {A0 : Nat → Prop} (hx : p.tables.exec = Jvm.exec) (hb : c.code = cc) (hml : c.maxLocals = nL) (hown : s.vm.findClass own = some m.cls) (hts : ∀ w ∈ bigW, w.before args s = true) (hlk : Cond.methodLink own idx yX6_isKind ∈ bigW) (hR : 2 ≤ R.frames ∧ 45 ≤ R.locals) (hf : cells + 0 ≤ R.cells ∧ slots + 0 ≤ R.slots) (hz : ls.size = nL) (hw : (rest.map fun v => v.category).sum ≤ 8) (hS : va_S A0 s.heap H locs) (hd : decode cc pc = .ok (.invokestatic idx, 3)) (hA : ∀ q, s.heap.size ≤ q → A0 q) (a0 : Int32) (k : ∀ locs, va_S A0 s.heap H locs → W p l e R s m args below meth c H locs cells slots Q (F0 m (pc + 3) ls (.int (f_X6_isKind a0) :: rest))) : W p l e R s m args below meth c H locs cells slots Q (F0 m pc ls (.int a0 :: rest)) :=
  va_calli (va_runS (As := [.int a0]) (rest := rest) ⟨hx, hb, hml, hown, hts⟩ (c_X6_isKind l H a0) (kS 1 hts hlk mS_X6_isKind mN_RX6 mY_X6_isKind rfl rfl (by decide +kernel) hR) ⟨fun a U g mk q => q, fun U hU hW => ⟨rfl, hU⟩⟩ rfl rfl hz rfl (lv_room hw) hd hf) hS (fun q h1 h2 => absurd h1 (Nat.not_lt.mpr h2)) (fun q h => hA q (Nat.le_trans hS.1 h)) (fun r u t H1 locs1 ht hvm hw9 hB hz1 hk1 hS1 => by
    have e : H1 = H := by rw [← ht]; exact hB
    subst e; subst hw9
    exact k locs1 hS1)

def f_X6_isRegister (a0 : Int32) : Int32 := (f_X6_in a0.toInt64 (0 : Int64) (31 : Int64))
set_option maxHeartbeats 4000000 in
set_option maxRecDepth 100000 in
theorem c_X6_isRegister (l : Launch) (hp : Heap) (a0 : Int32) : Met l yX6_isRegister (mW yX6_isRegister cX6_isRegister 1 (some .boolean)) { frames := 1, cells := 0, slots := 0, locals := 25 } (va_Pc [.int a0] (fun U => U.heap = hp)) (va_Qi (fun (r : Int32) (_ : Unit) => r = f_X6_isRegister a0) (fun _ t => t.heap = hp) (fun q : Nat => hp.size ≤ q)) 0 0 (fun q : Nat => hp.size ≤ q) := by
  refine Met.ofW (cc := cX6_isRegister) (maxL := 1) (ret := (some .boolean)) (by decide) rfl ?_
  intro p e s m args below meth c s₁ B hml hv
  obtain ⟨rfl, hh⟩ := hv
  have hx := B.exec
  have hb := B.bytes
  have hr := B.returns
  have hts := mW_hts (atoms_spec (ws := (mW yX6_isRegister cX6_isRegister 1 (some .boolean))) B.pre)
  have hown : s.vm.findClass RX6 = some m.cls := findClass_of_methodNamed B.named
  have hlocks := B.notSynchronized
  subst hh
  have hA : ∀ (n : Nat) (q : Nat), s.heap.size ≤ n → n ≤ q → s.heap.size ≤ q := fun n q h1 h2 => Nat.le_trans h1 h2
  have hS : va_S ((fun q : Nat => s.heap.size ≤ q)) s.heap s.heap [] := va_S.rf
  have hA : ∀ q, s.heap.size ≤ q → ((fun q : Nat => s.heap.size ≤ q)) q := fun q h => h
  have hl := lv_entry ([.int a0]) (n := 1) (Nat.le_of_ble_eq_true rfl)
  rw [lg_entry_eq]
  generalize (lg_sl ([.int a0]) ++ List.replicate (1 - (lg_sl ([.int a0])).length) Slot.unset).toArray = ls at hl ⊢
  have hl : lv_has ls 1 [(0, .int a0)] := hl
  refine W_gen (fun Q9 hQ9 => ?_)
  refine lv_iload_n hx hb dX6_isRegister_0 rfl (lv_at hl 0 rfl) ?_
  refine lv_i2l hx hb dX6_isRegister_1 rfl ?_
  refine lv_lconst (v := 0) hx hb dX6_isRegister_2 (by decide) ?_
  refine lv_ldc2 hx hb hown (hts _ mK_RX6_71) dX6_isRegister_3 ?_
  refine q_X6_in hx hb hml hown hts mM_RX6_67 ⟨Nat.le_of_ble_eq_true rfl, Nat.le_of_ble_eq_true rfl⟩ ⟨Nat.le_of_ble_eq_true rfl, Nat.le_of_ble_eq_true rfl⟩ hl.1 (Nat.le_of_ble_eq_true rfl) hS dX6_isRegister_6 hA a0.toInt64 (0 : Int64) (31 : Int64) (fun locs hS => ?_)
  rw [hQ9]
  have hf : f_X6_isRegister a0 = (f_X6_in a0.toInt64 (0 : Int64) (31 : Int64)) := by simp only [f_X6_isRegister]
  exact W.zret (v := (f_X6_in a0.toInt64 (0 : Int64) (31 : Int64))) (ty := .boolean) hx hb hr (nb_in _ _ _) (fun t ht hW => ⟨⟨(f_X6_in a0.toInt64 (0 : Int64) (31 : Int64)), (), rfl, by rw [hf], ht⟩, hS.F ht⟩) hS.2.2 dX6_isRegister_9
theorem q_X6_isRegister {p : Program} {l : Launch} {e : Env} {R : Room} {s : State} {m : MethodId} {args : Array Value} {below : List Frame} {meth : Method} {c : Code} {H : Heap} {locs : List Loc} {cells slots : Nat} {Q : State → Prop} {pc : Nat} {ls : Array Slot} {rest : List Value} {cc : ByteArray} {nL idx : Nat} {own : String} {A0 : Nat → Prop} (hx : p.tables.exec = Jvm.exec) (hb : c.code = cc) (hml : c.maxLocals = nL) (hown : s.vm.findClass own = some m.cls) (hts : ∀ w ∈ bigW, w.before args s = true) (hlk : Cond.methodLink own idx yX6_isRegister ∈ bigW) (hR : 2 ≤ R.frames ∧ 45 ≤ R.locals) (hf : cells + 0 ≤ R.cells ∧ slots + 0 ≤ R.slots) (hz : ls.size = nL) (hw : (rest.map fun v => v.category).sum ≤ 8) (hS : va_S A0 s.heap H locs) (hd : decode cc pc = .ok (.invokestatic idx, 3)) (hA : ∀ q, s.heap.size ≤ q → A0 q) (a0 : Int32) (k : ∀ locs, va_S A0 s.heap H locs → W p l e R s m args below meth c H locs cells slots Q (F0 m (pc + 3) ls (.int (f_X6_isRegister a0) :: rest))) : W p l e R s m args below meth c H locs cells slots Q (F0 m pc ls (.int a0 :: rest)) :=
  va_calli (va_runS (As := [.int a0]) (rest := rest) ⟨hx, hb, hml, hown, hts⟩ (c_X6_isRegister l H a0) (kS 1 hts hlk mS_X6_isRegister mN_RX6 mY_X6_isRegister rfl rfl (by decide +kernel) hR) ⟨fun a U g mk q => q, fun U hU hW => ⟨rfl, hU⟩⟩ rfl rfl hz rfl (lv_room hw) hd hf) hS (fun q h1 h2 => absurd h1 (Nat.not_lt.mpr h2)) (fun q h => hA q (Nat.le_trans hS.1 h)) (fun r u t H1 locs1 ht hvm hw9 hB hz1 hk1 hS1 => by
    have e : H1 = H := by rw [← ht]; exact hB
    subst e; subst hw9
    exact k locs1 hS1)

def f_X6_isLength (a0 : Int64) : Int32 := (f_X6_in a0 (-1073741823 : Int64) (1073741823 : Int64))
set_option maxHeartbeats 4000000 in
set_option maxRecDepth 100000 in
theorem c_X6_isLength (l : Launch) (hp : Heap) (a0 : Int64) : Met l yX6_isLength (mW yX6_isLength cX6_isLength 2 (some .boolean)) { frames := 1, cells := 0, slots := 0, locals := 25 } (va_Pc [.long a0] (fun U => U.heap = hp)) (va_Qi (fun (r : Int32) (_ : Unit) => r = f_X6_isLength a0) (fun _ t => t.heap = hp) (fun q : Nat => hp.size ≤ q)) 0 0 (fun q : Nat => hp.size ≤ q) := by
  refine Met.ofW (cc := cX6_isLength) (maxL := 2) (ret := (some .boolean)) (by decide) rfl ?_
  intro p e s m args below meth c s₁ B hml hv
  obtain ⟨rfl, hh⟩ := hv
  have hx := B.exec
  have hb := B.bytes
  have hr := B.returns
  have hts := mW_hts (atoms_spec (ws := (mW yX6_isLength cX6_isLength 2 (some .boolean))) B.pre)
  have hown : s.vm.findClass RX6 = some m.cls := findClass_of_methodNamed B.named
  have hlocks := B.notSynchronized
  subst hh
  have hA : ∀ (n : Nat) (q : Nat), s.heap.size ≤ n → n ≤ q → s.heap.size ≤ q := fun n q h1 h2 => Nat.le_trans h1 h2
  have hS : va_S ((fun q : Nat => s.heap.size ≤ q)) s.heap s.heap [] := va_S.rf
  have hA : ∀ q, s.heap.size ≤ q → ((fun q : Nat => s.heap.size ≤ q)) q := fun q h => h
  have hl := lv_entry ([.long a0]) (n := 2) (Nat.le_of_ble_eq_true rfl)
  rw [lg_entry_eq]
  generalize (lg_sl ([.long a0]) ++ List.replicate (2 - (lg_sl ([.long a0])).length) Slot.unset).toArray = ls at hl ⊢
  have hl : lv_has ls 2 [(0, .long a0)] := hl
  refine W_gen (fun Q9 hQ9 => ?_)
  refine lv_lload_n hx hb dX6_isLength_0 rfl (lv_at hl 0 rfl) ?_
  refine lv_ldc2 hx hb hown (hts _ mK_RX6_73) dX6_isLength_1 ?_
  refine lv_ldc2 hx hb hown (hts _ mK_RX6_75) dX6_isLength_4 ?_
  refine q_X6_in hx hb hml hown hts mM_RX6_67 ⟨Nat.le_of_ble_eq_true rfl, Nat.le_of_ble_eq_true rfl⟩ ⟨Nat.le_of_ble_eq_true rfl, Nat.le_of_ble_eq_true rfl⟩ hl.1 (Nat.le_of_ble_eq_true rfl) hS dX6_isLength_7 hA a0 (-1073741823 : Int64) (1073741823 : Int64) (fun locs hS => ?_)
  rw [hQ9]
  have hf : f_X6_isLength a0 = (f_X6_in a0 (-1073741823 : Int64) (1073741823 : Int64)) := by simp only [f_X6_isLength]
  exact W.zret (v := (f_X6_in a0 (-1073741823 : Int64) (1073741823 : Int64))) (ty := .boolean) hx hb hr (nb_in _ _ _) (fun t ht hW => ⟨⟨(f_X6_in a0 (-1073741823 : Int64) (1073741823 : Int64)), (), rfl, by rw [hf], ht⟩, hS.F ht⟩) hS.2.2 dX6_isLength_10
theorem q_X6_isLength {p : Program} {l : Launch} {e : Env} {R : Room} {s : State} {m : MethodId} {args : Array Value} {below : List Frame} {meth : Method} {c : Code} {H : Heap} {locs : List Loc} {cells slots : Nat} {Q : State → Prop} {pc : Nat} {ls : Array Slot} {rest : List Value} {cc : ByteArray} {nL idx : Nat} {own : String} {A0 : Nat → Prop} (hx : p.tables.exec = Jvm.exec) (hb : c.code = cc) (hml : c.maxLocals = nL) (hown : s.vm.findClass own = some m.cls) (hts : ∀ w ∈ bigW, w.before args s = true) (hlk : Cond.methodLink own idx yX6_isLength ∈ bigW) (hR : 2 ≤ R.frames ∧ 46 ≤ R.locals) (hf : cells + 0 ≤ R.cells ∧ slots + 0 ≤ R.slots) (hz : ls.size = nL) (hw : (rest.map fun v => v.category).sum ≤ 8) (hS : va_S A0 s.heap H locs) (hd : decode cc pc = .ok (.invokestatic idx, 3)) (hA : ∀ q, s.heap.size ≤ q → A0 q) (a0 : Int64) (k : ∀ locs, va_S A0 s.heap H locs → W p l e R s m args below meth c H locs cells slots Q (F0 m (pc + 3) ls (.int (f_X6_isLength a0) :: rest))) : W p l e R s m args below meth c H locs cells slots Q (F0 m pc ls (.long a0 :: rest)) :=
  va_calli (va_runS (As := [.long a0]) (rest := rest) ⟨hx, hb, hml, hown, hts⟩ (c_X6_isLength l H a0) (kS 1 hts hlk mS_X6_isLength mN_RX6 mY_X6_isLength rfl rfl (by decide +kernel) hR) ⟨fun a U g mk q => q, fun U hU hW => ⟨rfl, hU⟩⟩ rfl rfl hz rfl (lv_room hw) hd hf) hS (fun q h1 h2 => absurd h1 (Nat.not_lt.mpr h2)) (fun q h => hA q (Nat.le_trans hS.1 h)) (fun r u t H1 locs1 ht hvm hw9 hB hz1 hk1 hS1 => by
    have e : H1 = H := by rw [← ht]; exact hB
    subst e; subst hw9
    exact k locs1 hS1)

def f_X6_thrown (Th : Int32) : Int32 := Th
set_option maxHeartbeats 4000000 in
set_option maxRecDepth 100000 in
theorem c_X6_thrown (l : Launch) (dC : Nat → ClassId) (dI : Nat → Nat → Nat) (cI cJ : ClassId) (ad : Nat → Nat) (hi : fI 17 ad) (sz : Nat) (Th : Int32) (Ce : Nat → Int64) (Le : Nat → Int32) (De : Int32) (Ke : Int32) (Kc : Nat → Int64) (Ko : Nat → Int32) (Kl : Nat → Int32) (Kd : Nat → Int32) (Ug : Nat → Int64) (Ur : Nat → Int64) (Va : Nat → Int64) (To : Int32) (Tt : Nat → Int32) (Td : Nat → Int32) (Go : Int32) (Gg : Nat → Int32) (Ga : Nat → Int32) (Be : Int32) (Bt : Nat → Int32) (Si : Int32) (Te : Nat → Int32) (Bz : Int32) (Bk : Nat → Int32) : Met l yX6_thrown (mW yX6_thrown cX6_thrown 1 (some .int)) { frames := 0, cells := 0, slots := 0, locals := 0 } (va_Pc [.ref (ad 0)] (fun U => U.heap.size = sz ∧ va_P (dC, dI) vwCl (wM ad cI cJ Th Ce Le De Ke Kc Ko Kl Kd Ug Ur Va To Tt Td Go Gg Ga Be Bt Si Te Bz Bk) U.heap ∧ va_K (dC, dI) vwCl [(cI, .int), (cJ, .long)] U)) (va_Qi (fun (r : Int32) (_ : Unit) => r = f_X6_thrown Th) (fun _ t => va_P (dC, dI) vwCl (wM ad cI cJ Th Ce Le De Ke Kc Ko Kl Kd Ug Ur Va To Tt Td Go Gg Ga Be Bt Si Te Bz Bk) t.heap) (fA 17 ad sz)) 0 0 (fA 17 ad sz) := by
  refine Met.ofW (cc := cX6_thrown) (maxL := 1) (ret := (some .int)) (by decide) rfl ?_
  intro p e s m args below meth c s₁ B hml hv
  obtain ⟨rfl, hsz, hP, hK⟩ := hv
  have hx := B.exec
  have hb := B.bytes
  have hr := B.returns
  have hts := mW_hts (atoms_spec (ws := (mW yX6_thrown cX6_thrown 1 (some .int))) B.pre)
  have hown : s.vm.findClass RX6 = some m.cls := findClass_of_methodNamed B.named
  have hlocks := B.notSynchronized
  subst hsz
  have hA : ∀ (n : Nat) (q : Nat), s.heap.size ≤ n → n ≤ q → fA 17 ad s.heap.size q := fun n q h1 h2 => Or.inr (Nat.le_trans h1 h2)
  have hS : va_S (fA 17 ad s.heap.size) s.heap s.heap [] := va_S.rf
  have hA : ∀ q, s.heap.size ≤ q → (fA 17 ad s.heap.size) q := fun q h => Or.inr h
  have hl := lv_entry ([.ref (ad 0)]) (n := 1) (Nat.le_of_ble_eq_true rfl)
  rw [lg_entry_eq]
  generalize (lg_sl ([.ref (ad 0)]) ++ List.replicate (1 - (lg_sl ([.ref (ad 0)])).length) Slot.unset).toArray = ls at hl ⊢
  have hl : lv_has ls 1 [(0, .ref (ad 0))] := hl
  refine W_gen (fun Q9 hQ9 => ?_)
  refine lv_aload_n hx hb dX6_thrown_0 rfl (lv_at hl 0 rfl) ?_
  refine va_get (D := (dC, dI)) (ci := 8) (v := .int Th) (C := RX6) (T := TX6) (N := 24) hx hb hts iW_X6 hown hK hP 0 rfl rfl 0 (by decide) (hts _ mF_RX6_61) (fun _ h9 => h9) rfl dX6_thrown_1 ?_
  rw [hQ9]
  have hf : f_X6_thrown Th = Th := by simp only [f_X6_thrown]
  exact W.iret (v := Th) hx hb hr (fun t ht hW => ⟨⟨Th, (), rfl, by rw [hf], by show va_P (dC, dI) vwCl _ t.heap; rw [ht]; exact hP⟩, hS.F ht⟩) hS.2.2 dX6_thrown_4
theorem q_X6_thrown {p : Program} {l : Launch} {e : Env} {R : Room} {s : State} {m : MethodId} {args : Array Value} {below : List Frame} {meth : Method} {c : Code} {H : Heap} {locs : List Loc} {cells slots : Nat} {Q : State → Prop} {pc : Nat} {ls : Array Slot} {rest : List Value} {cc : ByteArray} {nL idx : Nat} {own : String} {A0 : Nat → Prop} {dC : Nat → ClassId} {dI : Nat → Nat → Nat} {cI cJ : ClassId} {ad : Nat → Nat} {Th : Int32} {Ce : Nat → Int64} {Le : Nat → Int32} {De : Int32} {Ke : Int32} {Kc : Nat → Int64} {Ko : Nat → Int32} {Kl : Nat → Int32} {Kd : Nat → Int32} {Ug : Nat → Int64} {Ur : Nat → Int64} {Va : Nat → Int64} {To : Int32} {Tt : Nat → Int32} {Td : Nat → Int32} {Go : Int32} {Gg : Nat → Int32} {Ga : Nat → Int32} {Be : Int32} {Bt : Nat → Int32} {Si : Int32} {Te : Nat → Int32} {Bz : Int32} {Bk : Nat → Int32} (hx : p.tables.exec = Jvm.exec) (hb : c.code = cc) (hml : c.maxLocals = nL) (hown : s.vm.findClass own = some m.cls) (hts : ∀ w ∈ bigW, w.before args s = true) (hlk : Cond.methodLink own idx yX6_thrown ∈ bigW) (hR : 1 ≤ R.frames ∧ 20 ≤ R.locals) (hf : cells + 0 ≤ R.cells ∧ slots + 0 ≤ R.slots) (hz : ls.size = nL) (hw : (rest.map fun v => v.category).sum ≤ 8) (hS : va_S A0 s.heap H locs) (hd : decode cc pc = .ok (.invokevirtual idx, 3)) (hA : ∀ q, fA 17 ad H.size q → A0 q) (hi : fI 17 ad) (hK : va_K (dC, dI) vwCl [(cI, .int), (cJ, .long)] s) (hP : va_P (dC, dI) vwCl (wM ad cI cJ Th Ce Le De Ke Kc Ko Kl Kd Ug Ur Va To Tt Td Go Gg Ga Be Bt Si Te Bz Bk) H)  (u : Int32) (hu : u = f_X6_thrown Th) (k : ∀ (H1 : Heap) (locs1 : List Loc), va_P (dC, dI) vwCl (wM ad cI cJ Th Ce Le De Ke Kc Ko Kl Kd Ug Ur Va To Tt Td Go Gg Ga Be Bt Si Te Bz Bk) H1 → va_S A0 s.heap H1 locs1 → W p l e R s m args below meth c H1 locs1 (cells + 0) (slots + 0) Q (F0 m (pc + 3) ls (.int u :: rest))) : W p l e R s m args below meth c H locs cells slots Q (F0 m pc ls (.ref (ad 0) :: rest)) := by
  rw [hu] at k
  exact va_calli (va_runV (As := []) (rest := rest) ⟨hx, hb, hml, hown, hts⟩ (c_X6_thrown l dC dI cI cJ ad hi H.size Th Ce Le De Ke Kc Ko Kl Kd Ug Ur Va To Tt Td Go Gg Ga Be Bt Si Te Bz Bk) (kV 0 hts hlk mI_X6_thrown mN_RX6 mY_X6_thrown mV_X6_thrown rfl rfl (by decide +kernel) hR) ⟨fun a U g mk q => ⟨q.1, q.2.1, q.2.2.1, va_K.moved (u := U) (U := U.calling g mk a) (Vm.Alike.refl U.vm) q.2.2.2⟩, va_recv hK hP (ci := 8) (q0 := 0) rfl rfl, fun U hU hW => ⟨rfl, by rw [hU], by rw [hU]; exact hP, va_K.moved hW.alike hK⟩⟩ rfl rfl hz rfl (lv_room hw) hd hf) hS (fun q _ h => hA q h) (fun q h => hA q h) (fun r u t H1 locs1 ht hvm hw9 hB hz1 hk1 hS1 => by
    subst hw9
    exact k H1 locs1 (by rw [← ht]; exact hB) hS1)
theorem qf_X6_thrown {p : Program} {l : Launch} {e : Env} {R : Room} {s : State} {m : MethodId} {args : Array Value} {below : List Frame} {meth : Method} {c : Code} {H : Heap} {locs : List Loc} {cells slots : Nat} {Q : State → Prop} {pc : Nat} {ls : Array Slot} {rest : List Value} {cc : ByteArray} {nL idx : Nat} {own : String} {A0 : Nat → Prop} {dC : Nat → ClassId} {dI : Nat → Nat → Nat} {cI cJ : ClassId} {ad : Nat → Nat} {Th : Int32} {Ce : Nat → Int64} {Le : Nat → Int32} {De : Int32} {Ke : Int32} {Kc : Nat → Int64} {Ko : Nat → Int32} {Kl : Nat → Int32} {Kd : Nat → Int32} {Ug : Nat → Int64} {Ur : Nat → Int64} {Va : Nat → Int64} {To : Int32} {Tt : Nat → Int32} {Td : Nat → Int32} {Go : Int32} {Gg : Nat → Int32} {Ga : Nat → Int32} {Be : Int32} {Bt : Nat → Int32} {Si : Int32} {Te : Nat → Int32} {Bz : Int32} {Bk : Nat → Int32} (hx : p.tables.exec = Jvm.exec) (hb : c.code = cc) (hml : c.maxLocals = nL) (hown : s.vm.findClass own = some m.cls) (hts : ∀ w ∈ bigW, w.before args s = true) (hlk : Cond.methodLink own idx yX6_thrown ∈ bigW) (hR : 1 ≤ R.frames ∧ 20 ≤ R.locals) (hf : cells + 0 ≤ R.cells ∧ slots + 0 ≤ R.slots) (hz : ls.size = nL) (hw : (rest.map fun v => v.category).sum ≤ 8) (hS : va_S A0 s.heap H locs) (hd : decode cc pc = .ok (.invokevirtual idx, 3)) (hA : ∀ q, fA 17 ad H.size q → A0 q) (hi : fI 17 ad) (hK : va_K (dC, dI) vwCl [(cI, .int), (cJ, .long)] s) (hP : va_P (dC, dI) vwCl (wM ad cI cJ Th Ce Le De Ke Kc Ko Kl Kd Ug Ur Va To Tt Td Go Gg Ga Be Bt Si Te Bz Bk) H)  (u : Int32) (hu : u = f_X6_thrown Th) (k : ∀ (H1 : Heap) (locs1 : List Loc), va_P (dC, dI) vwCl (wM ad cI cJ Th Ce Le De Ke Kc Ko Kl Kd Ug Ur Va To Tt Td Go Gg Ga Be Bt Si Te Bz Bk) H1 → va_S A0 s.heap H1 locs1 → (∀ q : Nat, q < H.size → ¬ fA 17 ad H.size q → H1[q]? = H[q]?) → H.size ≤ H1.size → W p l e R s m args below meth c H1 locs1 (cells + 0) (slots + 0) Q (F0 m (pc + 3) ls (.int u :: rest))) : W p l e R s m args below meth c H locs cells slots Q (F0 m pc ls (.ref (ad 0) :: rest)) := by
  rw [hu] at k
  exact va_calli (va_runV (As := []) (rest := rest) ⟨hx, hb, hml, hown, hts⟩ (c_X6_thrown l dC dI cI cJ ad hi H.size Th Ce Le De Ke Kc Ko Kl Kd Ug Ur Va To Tt Td Go Gg Ga Be Bt Si Te Bz Bk) (kV 0 hts hlk mI_X6_thrown mN_RX6 mY_X6_thrown mV_X6_thrown rfl rfl (by decide +kernel) hR) ⟨fun a U g mk q => ⟨q.1, q.2.1, q.2.2.1, va_K.moved (u := U) (U := U.calling g mk a) (Vm.Alike.refl U.vm) q.2.2.2⟩, va_recv hK hP (ci := 8) (q0 := 0) rfl rfl, fun U hU hW => ⟨rfl, by rw [hU], by rw [hU]; exact hP, va_K.moved hW.alike hK⟩⟩ rfl rfl hz rfl (lv_room hw) hd hf) hS (fun q _ h => hA q h) (fun q h => hA q h) (fun r u t H1 locs1 ht hvm hw9 hB hz1 hk1 hS1 => by
    subst hw9
    exact k H1 locs1 (by rw [← ht]; exact hB) hS1 hk1 hz1)

def f_X6_token (a0 : Int32) (Th : Int32) (Ur : Nat → Int64) : Int32 × Int32 × (Nat → Int64) := (if (f_X6_in a0.toInt64 (0 : Int64) (255 : Int64)) = 0 then ((0 : Int32), (1 : Int32), Ur) else (if (Ur (0 : Int32).toNatClampNeg) = (20 : Int64) then ((-1 : Int32), (0 : Int32), Ur) else (((vp_updL (vp_updL Ur (0 : Int32).toNatClampNeg ((Ur (0 : Int32).toNatClampNeg) + (1 : Int64))) ((vp_updL Ur (0 : Int32).toNatClampNeg ((Ur (0 : Int32).toNatClampNeg) + (1 : Int64))) (0 : Int32).toNatClampNeg).toInt32.toNatClampNeg a0.toInt64) (0 : Int32).toNatClampNeg).toInt32, (0 : Int32), (vp_updL (vp_updL Ur (0 : Int32).toNatClampNeg ((Ur (0 : Int32).toNatClampNeg) + (1 : Int64))) ((vp_updL Ur (0 : Int32).toNatClampNeg ((Ur (0 : Int32).toNatClampNeg) + (1 : Int64))) (0 : Int32).toNatClampNeg).toInt32.toNatClampNeg a0.toInt64))))
def S_X6_token (a0 : Int32) (Th : Int32) (Ur : Nat → Int64) : Prop := ((f_X6_in a0.toInt64 (0 : Int64) (255 : Int64)) = 0 → (True)) ∧ (¬ (f_X6_in a0.toInt64 (0 : Int64) (255 : Int64)) = 0 → ((vp_in (0 : Int32) 21) ∧ (((Ur (0 : Int32).toNatClampNeg) = (20 : Int64) → (True)) ∧ (¬ (Ur (0 : Int32).toNatClampNeg) = (20 : Int64) → ((vp_in (0 : Int32) 21) ∧ ((vp_in (0 : Int32) 21) ∧ ((vp_in (0 : Int32) 21) ∧ ((vp_in ((vp_updL Ur (0 : Int32).toNatClampNeg ((Ur (0 : Int32).toNatClampNeg) + (1 : Int64))) (0 : Int32).toNatClampNeg).toInt32 21) ∧ ((vp_in (0 : Int32) 21) ∧ (True))))))))))
set_option maxHeartbeats 4000000 in
set_option maxRecDepth 100000 in
theorem c_X6_token (l : Launch) (dC : Nat → ClassId) (dI : Nat → Nat → Nat) (cI cJ : ClassId) (ad : Nat → Nat) (hi : fI 17 ad) (sz : Nat) (Th : Int32) (Ce : Nat → Int64) (Le : Nat → Int32) (De : Int32) (Ke : Int32) (Kc : Nat → Int64) (Ko : Nat → Int32) (Kl : Nat → Int32) (Kd : Nat → Int32) (Ug : Nat → Int64) (Ur : Nat → Int64) (Va : Nat → Int64) (To : Int32) (Tt : Nat → Int32) (Td : Nat → Int32) (Go : Int32) (Gg : Nat → Int32) (Ga : Nat → Int32) (Be : Int32) (Bt : Nat → Int32) (Si : Int32) (Te : Nat → Int32) (Bz : Int32) (Bk : Nat → Int32) (a0 : Int32) (hs : S_X6_token a0 Th Ur) : Met l yX6_token (mW yX6_token cX6_token 2 (some .int)) { frames := 1, cells := 0, slots := 0, locals := 25 } (va_Pc [.ref (ad 0), .int a0] (fun U => U.heap.size = sz ∧ va_P (dC, dI) vwCl (wM ad cI cJ Th Ce Le De Ke Kc Ko Kl Kd Ug Ur Va To Tt Td Go Gg Ga Be Bt Si Te Bz Bk) U.heap ∧ va_K (dC, dI) vwCl [(cI, .int), (cJ, .long)] U)) (va_Qi (fun (r : Int32) (_ : Unit) => r = (f_X6_token a0 Th Ur).1) (fun _ t => va_P (dC, dI) vwCl (wM ad cI cJ ((f_X6_token a0 Th Ur).2.1) Ce Le De Ke Kc Ko Kl Kd Ug ((f_X6_token a0 Th Ur).2.2) Va To Tt Td Go Gg Ga Be Bt Si Te Bz Bk) t.heap) (fA 17 ad sz)) 0 0 (fA 17 ad sz) := by
  refine Met.ofW (cc := cX6_token) (maxL := 2) (ret := (some .int)) (by decide) rfl ?_
  intro p e s m args below meth c s₁ B hml hv
  obtain ⟨rfl, hsz, hP, hK⟩ := hv
  have hx := B.exec
  have hb := B.bytes
  have hr := B.returns
  have hts := mW_hts (atoms_spec (ws := (mW yX6_token cX6_token 2 (some .int))) B.pre)
  have hown : s.vm.findClass RX6 = some m.cls := findClass_of_methodNamed B.named
  have hlocks := B.notSynchronized
  subst hsz
  have hA : ∀ (n : Nat) (q : Nat), s.heap.size ≤ n → n ≤ q → fA 17 ad s.heap.size q := fun n q h1 h2 => Or.inr (Nat.le_trans h1 h2)
  have hS : va_S (fA 17 ad s.heap.size) s.heap s.heap [] := va_S.rf
  have hA : ∀ q, s.heap.size ≤ q → (fA 17 ad s.heap.size) q := fun q h => Or.inr h
  unfold S_X6_token at hs
  have hl := lv_entry ([.ref (ad 0), .int a0]) (n := 2) (Nat.le_of_ble_eq_true rfl)
  rw [lg_entry_eq]
  generalize (lg_sl ([.ref (ad 0), .int a0]) ++ List.replicate (2 - (lg_sl ([.ref (ad 0), .int a0])).length) Slot.unset).toArray = ls at hl ⊢
  have hl : lv_has ls 2 [(0, .ref (ad 0)), (1, .int a0)] := hl
  refine W_gen (fun Q9 hQ9 => ?_)
  refine lv_aload_n hx hb dX6_token_0 rfl (lv_at hl 0 rfl) ?_
  refine lv_iload_n hx hb dX6_token_1 rfl (lv_at hl 1 rfl) ?_
  refine lv_i2l hx hb dX6_token_2 rfl ?_
  refine lv_lconst (v := 0) hx hb dX6_token_3 (by decide) ?_
  refine lv_ldc2 hx hb hown (hts _ mK_RX6_77) dX6_token_4 ?_
  refine q_X6_in hx hb hml hown hts mM_RX6_67 ⟨Nat.le_of_ble_eq_true rfl, Nat.le_of_ble_eq_true rfl⟩ ⟨Nat.le_of_ble_eq_true rfl, Nat.le_of_ble_eq_true rfl⟩ hl.1 (Nat.le_of_ble_eq_true rfl) hS dX6_token_7 hA a0.toInt64 (0 : Int64) (255 : Int64) (fun locs hS => ?_)
  refine lv_if_eq (tgt := 17) hx hb dX6_token_10 (by decide) (fun c1 => ?_) (fun c1 => ?_)
  · have hs := hs.1 c1
    refine lv_iconst (v := 1) hx hb dX6_token_17 (by decide) ?_
    refine va_put (D := (dC, dI)) (ci := 8) (v := .int (1 : Int32)) (ty := .int) (C := RX6) (T := TX6) (N := 24) hx hb hts iW_X6 tyX6 tyX6_ok nmX6 hown hK hP (fA_D hi rfl) hS 0 rfl rfl 0 (by decide) (hts _ mF_RX6_61) (fun _ h9 => h9) rfl (by decide +kernel) rfl rfl (Nat.le_of_ble_eq_true rfl) dX6_token_18 (fun H locs hP _ hS => ?_)
    have hP : va_P (dC, dI) vwCl (wM ad cI cJ (1 : Int32) Ce Le De Ke Kc Ko Kl Kd Ug Ur Va To Tt Td Go Gg Ga Be Bt Si Te Bz Bk) H := hP
    refine lv_aload_n hx hb dX6_token_21 rfl (lv_at hl 0 rfl) ?_
    refine va_get (D := (dC, dI)) (ci := 8) (v := .int (1 : Int32)) (C := RX6) (T := TX6) (N := 24) hx hb hts iW_X6 hown hK hP 0 rfl rfl 0 (by decide) (hts _ mF_RX6_61) (fun _ h9 => h9) rfl dX6_token_22 ?_
    refine lv_if_le (tgt := 30) hx hb dX6_token_25 (by decide) (fun c2 => ?_) (fun c2 => ?_)
    · exact absurd c2 (by decide)
    · refine lv_iconst (v := 0) hx hb dX6_token_28 (by decide) ?_
      rw [hQ9]
      have hf : f_X6_token a0 Th Ur = ((0 : Int32), (1 : Int32), Ur) := by simp only [f_X6_token, if_pos c1]
      exact W.iret (v := (0 : Int32)) hx hb hr (fun t ht hW => ⟨⟨(0 : Int32), (), rfl, by rw [hf], by rw [hf]; show va_P (dC, dI) vwCl _ t.heap; rw [ht]; exact hP⟩, hS.F ht⟩) hS.2.2 dX6_token_29
  · have hs := hs.2 c1
    refine lv_iconst (v := 0) hx hb dX6_token_13 (by decide) ?_
    refine lv_goto (tgt := 18) hx hb dX6_token_14 (by decide) ?_
    refine va_put (D := (dC, dI)) (ci := 8) (v := .int (0 : Int32)) (ty := .int) (C := RX6) (T := TX6) (N := 24) hx hb hts iW_X6 tyX6 tyX6_ok nmX6 hown hK hP (fA_D hi rfl) hS 0 rfl rfl 0 (by decide) (hts _ mF_RX6_61) (fun _ h9 => h9) rfl (by decide +kernel) rfl rfl (Nat.le_of_ble_eq_true rfl) dX6_token_18 (fun H locs hP _ hS => ?_)
    have hP : va_P (dC, dI) vwCl (wM ad cI cJ (0 : Int32) Ce Le De Ke Kc Ko Kl Kd Ug Ur Va To Tt Td Go Gg Ga Be Bt Si Te Bz Bk) H := hP
    refine lv_aload_n hx hb dX6_token_21 rfl (lv_at hl 0 rfl) ?_
    refine va_get (D := (dC, dI)) (ci := 8) (v := .int (0 : Int32)) (C := RX6) (T := TX6) (N := 24) hx hb hts iW_X6 hown hK hP 0 rfl rfl 0 (by decide) (hts _ mF_RX6_61) (fun _ h9 => h9) rfl dX6_token_22 ?_
    refine lv_if_le (tgt := 30) hx hb dX6_token_25 (by decide) (fun c3 => ?_) (fun c3 => ?_)
    · refine lv_aload_n hx hb dX6_token_30 rfl (lv_at hl 0 rfl) ?_
      refine va_get (D := (dC, dI)) (ci := 8) (v := .ref (ad 8)) (C := RX6) (T := TX6) (N := 24) hx hb hts iW_X6 hown hK hP 0 rfl rfl 10 (by decide) (hts _ mF_RX6_32) (fun _ h9 => h9) rfl dX6_token_31 ?_
      refine lv_iconst (v := 0) hx hb dX6_token_34 (by decide) ?_
      obtain ⟨h4, hs⟩ := hs
      refine va_lald hx hb hK hP 8 1 rfl rfl h4 dX6_token_35 ?_
      refine lv_ldc2 hx hb hown (hts _ mK_RX6_79) dX6_token_36 ?_
      refine W.lcmp hx hb dX6_token_39 ?_
      refine lv_if_ne (tgt := 45) hx hb dX6_token_40 (by decide) (fun c5 => ?_) (fun c5 => ?_)
      · have c5 : ¬ (Ur (0 : Int32).toNatClampNeg) = (20 : Int64) := fun z => c5 (lc_eq.mpr z)
        have hs := hs.2 c5
        refine lv_aload_n hx hb dX6_token_45 rfl (lv_at hl 0 rfl) ?_
        refine va_get (D := (dC, dI)) (ci := 8) (v := .ref (ad 8)) (C := RX6) (T := TX6) (N := 24) hx hb hts iW_X6 hown hK hP 0 rfl rfl 10 (by decide) (hts _ mF_RX6_32) (fun _ h9 => h9) rfl dX6_token_46 ?_
        refine lv_iconst (v := 0) hx hb dX6_token_49 (by decide) ?_
        refine lv_dup2_11 hx hb dX6_token_50 rfl rfl ?_
        obtain ⟨h6, hs⟩ := hs
        refine va_lald hx hb hK hP 8 1 rfl rfl h6 dX6_token_51 ?_
        refine lv_lconst (v := 1) hx hb dX6_token_52 (by decide) ?_
        refine lv_ladd hx hb dX6_token_53 ?_
        obtain ⟨h7, hs⟩ := hs
        refine va_last hx hb hK hP (fA_D hi rfl) hS 8 1 rfl rfl h7 dX6_token_54 (fun H locs hP _ hS => ?_)
        have hP : va_P (dC, dI) vwCl (wM ad cI cJ (0 : Int32) Ce Le De Ke Kc Ko Kl Kd Ug (vp_updL Ur (0 : Int32).toNatClampNeg ((Ur (0 : Int32).toNatClampNeg) + (1 : Int64))) Va To Tt Td Go Gg Ga Be Bt Si Te Bz Bk) H := hP
        refine lv_aload_n hx hb dX6_token_55 rfl (lv_at hl 0 rfl) ?_
        refine va_get (D := (dC, dI)) (ci := 8) (v := .ref (ad 8)) (C := RX6) (T := TX6) (N := 24) hx hb hts iW_X6 hown hK hP 0 rfl rfl 10 (by decide) (hts _ mF_RX6_32) (fun _ h9 => h9) rfl dX6_token_56 ?_
        refine lv_aload_n hx hb dX6_token_59 rfl (lv_at hl 0 rfl) ?_
        refine va_get (D := (dC, dI)) (ci := 8) (v := .ref (ad 8)) (C := RX6) (T := TX6) (N := 24) hx hb hts iW_X6 hown hK hP 0 rfl rfl 10 (by decide) (hts _ mF_RX6_32) (fun _ h9 => h9) rfl dX6_token_60 ?_
        refine lv_iconst (v := 0) hx hb dX6_token_63 (by decide) ?_
        obtain ⟨h8, hs⟩ := hs
        refine va_lald hx hb hK hP 8 1 rfl rfl h8 dX6_token_64 ?_
        refine lv_l2i hx hb dX6_token_65 rfl ?_
        refine lv_iload_n hx hb dX6_token_66 rfl (lv_at hl 1 rfl) ?_
        refine lv_i2l hx hb dX6_token_67 rfl ?_
        obtain ⟨h9, hs⟩ := hs
        refine va_last hx hb hK hP (fA_D hi rfl) hS 8 1 rfl rfl h9 dX6_token_68 (fun H locs hP _ hS => ?_)
        have hP : va_P (dC, dI) vwCl (wM ad cI cJ (0 : Int32) Ce Le De Ke Kc Ko Kl Kd Ug (vp_updL (vp_updL Ur (0 : Int32).toNatClampNeg ((Ur (0 : Int32).toNatClampNeg) + (1 : Int64))) ((vp_updL Ur (0 : Int32).toNatClampNeg ((Ur (0 : Int32).toNatClampNeg) + (1 : Int64))) (0 : Int32).toNatClampNeg).toInt32.toNatClampNeg a0.toInt64) Va To Tt Td Go Gg Ga Be Bt Si Te Bz Bk) H := hP
        refine lv_aload_n hx hb dX6_token_69 rfl (lv_at hl 0 rfl) ?_
        refine va_get (D := (dC, dI)) (ci := 8) (v := .ref (ad 8)) (C := RX6) (T := TX6) (N := 24) hx hb hts iW_X6 hown hK hP 0 rfl rfl 10 (by decide) (hts _ mF_RX6_32) (fun _ h9 => h9) rfl dX6_token_70 ?_
        refine lv_iconst (v := 0) hx hb dX6_token_73 (by decide) ?_
        obtain ⟨h10, hs⟩ := hs
        refine va_lald hx hb hK hP 8 1 rfl rfl h10 dX6_token_74 ?_
        refine lv_l2i hx hb dX6_token_75 rfl ?_
        rw [hQ9]
        have hf : f_X6_token a0 Th Ur = (((vp_updL (vp_updL Ur (0 : Int32).toNatClampNeg ((Ur (0 : Int32).toNatClampNeg) + (1 : Int64))) ((vp_updL Ur (0 : Int32).toNatClampNeg ((Ur (0 : Int32).toNatClampNeg) + (1 : Int64))) (0 : Int32).toNatClampNeg).toInt32.toNatClampNeg a0.toInt64) (0 : Int32).toNatClampNeg).toInt32, (0 : Int32), (vp_updL (vp_updL Ur (0 : Int32).toNatClampNeg ((Ur (0 : Int32).toNatClampNeg) + (1 : Int64))) ((vp_updL Ur (0 : Int32).toNatClampNeg ((Ur (0 : Int32).toNatClampNeg) + (1 : Int64))) (0 : Int32).toNatClampNeg).toInt32.toNatClampNeg a0.toInt64)) := by simp only [f_X6_token, if_neg c1, if_neg c5]
        exact W.iret (v := ((vp_updL (vp_updL Ur (0 : Int32).toNatClampNeg ((Ur (0 : Int32).toNatClampNeg) + (1 : Int64))) ((vp_updL Ur (0 : Int32).toNatClampNeg ((Ur (0 : Int32).toNatClampNeg) + (1 : Int64))) (0 : Int32).toNatClampNeg).toInt32.toNatClampNeg a0.toInt64) (0 : Int32).toNatClampNeg).toInt32) hx hb hr (fun t ht hW => ⟨⟨((vp_updL (vp_updL Ur (0 : Int32).toNatClampNeg ((Ur (0 : Int32).toNatClampNeg) + (1 : Int64))) ((vp_updL Ur (0 : Int32).toNatClampNeg ((Ur (0 : Int32).toNatClampNeg) + (1 : Int64))) (0 : Int32).toNatClampNeg).toInt32.toNatClampNeg a0.toInt64) (0 : Int32).toNatClampNeg).toInt32, (), rfl, by rw [hf], by rw [hf]; show va_P (dC, dI) vwCl _ t.heap; rw [ht]; exact hP⟩, hS.F ht⟩) hS.2.2 dX6_token_76
      · have c5 : (Ur (0 : Int32).toNatClampNeg) = (20 : Int64) := lc_eq.mp c5
        have hs := hs.1 c5
        refine lv_iconst (v := (-1)) hx hb dX6_token_43 (by decide) ?_
        rw [hQ9]
        have hf : f_X6_token a0 Th Ur = ((-1 : Int32), (0 : Int32), Ur) := by simp only [f_X6_token, if_neg c1, if_pos c5]
        exact W.iret (v := (-1 : Int32)) hx hb hr (fun t ht hW => ⟨⟨(-1 : Int32), (), rfl, by rw [hf], by rw [hf]; show va_P (dC, dI) vwCl _ t.heap; rw [ht]; exact hP⟩, hS.F ht⟩) hS.2.2 dX6_token_44
    · exact absurd (by decide) c3
theorem q_X6_token {p : Program} {l : Launch} {e : Env} {R : Room} {s : State} {m : MethodId} {args : Array Value} {below : List Frame} {meth : Method} {c : Code} {H : Heap} {locs : List Loc} {cells slots : Nat} {Q : State → Prop} {pc : Nat} {ls : Array Slot} {rest : List Value} {cc : ByteArray} {nL idx : Nat} {own : String} {A0 : Nat → Prop} {dC : Nat → ClassId} {dI : Nat → Nat → Nat} {cI cJ : ClassId} {ad : Nat → Nat} {Th : Int32} {Ce : Nat → Int64} {Le : Nat → Int32} {De : Int32} {Ke : Int32} {Kc : Nat → Int64} {Ko : Nat → Int32} {Kl : Nat → Int32} {Kd : Nat → Int32} {Ug : Nat → Int64} {Ur : Nat → Int64} {Va : Nat → Int64} {To : Int32} {Tt : Nat → Int32} {Td : Nat → Int32} {Go : Int32} {Gg : Nat → Int32} {Ga : Nat → Int32} {Be : Int32} {Bt : Nat → Int32} {Si : Int32} {Te : Nat → Int32} {Bz : Int32} {Bk : Nat → Int32} (hx : p.tables.exec = Jvm.exec) (hb : c.code = cc) (hml : c.maxLocals = nL) (hown : s.vm.findClass own = some m.cls) (hts : ∀ w ∈ bigW, w.before args s = true) (hlk : Cond.methodLink own idx yX6_token ∈ bigW) (hR : 2 ≤ R.frames ∧ 46 ≤ R.locals) (hf : cells + 0 ≤ R.cells ∧ slots + 0 ≤ R.slots) (hz : ls.size = nL) (hw : (rest.map fun v => v.category).sum ≤ 8) (hS : va_S A0 s.heap H locs) (hd : decode cc pc = .ok (.invokevirtual idx, 3)) (hA : ∀ q, fA 17 ad H.size q → A0 q) (hi : fI 17 ad) (hK : va_K (dC, dI) vwCl [(cI, .int), (cJ, .long)] s) (hP : va_P (dC, dI) vwCl (wM ad cI cJ Th Ce Le De Ke Kc Ko Kl Kd Ug Ur Va To Tt Td Go Gg Ga Be Bt Si Te Bz Bk) H) (a0 : Int32) (hs : S_X6_token a0 Th Ur)  (u : Int32 × Int32 × (Nat → Int64)) (hu : u = f_X6_token a0 Th Ur) (k : ∀ (H1 : Heap) (locs1 : List Loc), va_P (dC, dI) vwCl (wM ad cI cJ u.2.1 Ce Le De Ke Kc Ko Kl Kd Ug u.2.2 Va To Tt Td Go Gg Ga Be Bt Si Te Bz Bk) H1 → va_S A0 s.heap H1 locs1 → W p l e R s m args below meth c H1 locs1 (cells + 0) (slots + 0) Q (F0 m (pc + 3) ls (.int u.1 :: rest))) : W p l e R s m args below meth c H locs cells slots Q (F0 m pc ls (.int a0 :: .ref (ad 0) :: rest)) := by
  subst hu
  exact va_calli (va_runV (As := [.int a0]) (rest := rest) ⟨hx, hb, hml, hown, hts⟩ (c_X6_token l dC dI cI cJ ad hi H.size Th Ce Le De Ke Kc Ko Kl Kd Ug Ur Va To Tt Td Go Gg Ga Be Bt Si Te Bz Bk a0 hs) (kV 1 hts hlk mI_X6_token mN_RX6 mY_X6_token mV_X6_token rfl rfl (by decide +kernel) hR) ⟨fun a U g mk q => ⟨q.1, q.2.1, q.2.2.1, va_K.moved (u := U) (U := U.calling g mk a) (Vm.Alike.refl U.vm) q.2.2.2⟩, va_recv hK hP (ci := 8) (q0 := 0) rfl rfl, fun U hU hW => ⟨rfl, by rw [hU], by rw [hU]; exact hP, va_K.moved hW.alike hK⟩⟩ rfl rfl hz rfl (lv_room hw) hd hf) hS (fun q _ h => hA q h) (fun q h => hA q h) (fun r u t H1 locs1 ht hvm hw9 hB hz1 hk1 hS1 => by
    subst hw9
    exact k H1 locs1 (by rw [← ht]; exact hB) hS1)
theorem qf_X6_token {p : Program} {l : Launch} {e : Env} {R : Room} {s : State} {m : MethodId} {args : Array Value} {below : List Frame} {meth : Method} {c : Code} {H : Heap} {locs : List Loc} {cells slots : Nat} {Q : State → Prop} {pc : Nat} {ls : Array Slot} {rest : List Value} {cc : ByteArray} {nL idx : Nat} {own : String} {A0 : Nat → Prop} {dC : Nat → ClassId} {dI : Nat → Nat → Nat} {cI cJ : ClassId} {ad : Nat → Nat} {Th : Int32} {Ce : Nat → Int64} {Le : Nat → Int32} {De : Int32} {Ke : Int32} {Kc : Nat → Int64} {Ko : Nat → Int32} {Kl : Nat → Int32} {Kd : Nat → Int32} {Ug : Nat → Int64} {Ur : Nat → Int64} {Va : Nat → Int64} {To : Int32} {Tt : Nat → Int32} {Td : Nat → Int32} {Go : Int32} {Gg : Nat → Int32} {Ga : Nat → Int32} {Be : Int32} {Bt : Nat → Int32} {Si : Int32} {Te : Nat → Int32} {Bz : Int32} {Bk : Nat → Int32} (hx : p.tables.exec = Jvm.exec) (hb : c.code = cc) (hml : c.maxLocals = nL) (hown : s.vm.findClass own = some m.cls) (hts : ∀ w ∈ bigW, w.before args s = true) (hlk : Cond.methodLink own idx yX6_token ∈ bigW) (hR : 2 ≤ R.frames ∧ 46 ≤ R.locals) (hf : cells + 0 ≤ R.cells ∧ slots + 0 ≤ R.slots) (hz : ls.size = nL) (hw : (rest.map fun v => v.category).sum ≤ 8) (hS : va_S A0 s.heap H locs) (hd : decode cc pc = .ok (.invokevirtual idx, 3)) (hA : ∀ q, fA 17 ad H.size q → A0 q) (hi : fI 17 ad) (hK : va_K (dC, dI) vwCl [(cI, .int), (cJ, .long)] s) (hP : va_P (dC, dI) vwCl (wM ad cI cJ Th Ce Le De Ke Kc Ko Kl Kd Ug Ur Va To Tt Td Go Gg Ga Be Bt Si Te Bz Bk) H) (a0 : Int32) (hs : S_X6_token a0 Th Ur)  (u : Int32 × Int32 × (Nat → Int64)) (hu : u = f_X6_token a0 Th Ur) (k : ∀ (H1 : Heap) (locs1 : List Loc), va_P (dC, dI) vwCl (wM ad cI cJ u.2.1 Ce Le De Ke Kc Ko Kl Kd Ug u.2.2 Va To Tt Td Go Gg Ga Be Bt Si Te Bz Bk) H1 → va_S A0 s.heap H1 locs1 → (∀ q : Nat, q < H.size → ¬ fA 17 ad H.size q → H1[q]? = H[q]?) → H.size ≤ H1.size → W p l e R s m args below meth c H1 locs1 (cells + 0) (slots + 0) Q (F0 m (pc + 3) ls (.int u.1 :: rest))) : W p l e R s m args below meth c H locs cells slots Q (F0 m pc ls (.int a0 :: .ref (ad 0) :: rest)) := by
  subst hu
  exact va_calli (va_runV (As := [.int a0]) (rest := rest) ⟨hx, hb, hml, hown, hts⟩ (c_X6_token l dC dI cI cJ ad hi H.size Th Ce Le De Ke Kc Ko Kl Kd Ug Ur Va To Tt Td Go Gg Ga Be Bt Si Te Bz Bk a0 hs) (kV 1 hts hlk mI_X6_token mN_RX6 mY_X6_token mV_X6_token rfl rfl (by decide +kernel) hR) ⟨fun a U g mk q => ⟨q.1, q.2.1, q.2.2.1, va_K.moved (u := U) (U := U.calling g mk a) (Vm.Alike.refl U.vm) q.2.2.2⟩, va_recv hK hP (ci := 8) (q0 := 0) rfl rfl, fun U hU hW => ⟨rfl, by rw [hU], by rw [hU]; exact hP, va_K.moved hW.alike hK⟩⟩ rfl rfl hz rfl (lv_room hw) hd hf) hS (fun q _ h => hA q h) (fun q h => hA q h) (fun r u t H1 locs1 ht hvm hw9 hB hz1 hk1 hS1 => by
    subst hw9
    exact k H1 locs1 (by rw [← ht]; exact hB) hS1 hk1 hz1)

def f_X6_glue (a0 : Int64) (a1 : Int64) (a2 : Int32) (a3 : Int64) (a4 : Int32) (Th : Int32) (Ug : Nat → Int64) : Int32 × (Nat → Int64) := (if (f_X6_isLength a0) = 0 then ((1 : Int32), Ug) else (if (f_X6_isLength a1) = 0 then ((1 : Int32), Ug) else (if (f_X6_in a2.toInt64 (0 : Int64) (3 : Int64)) = 0 then ((1 : Int32), Ug) else (if (f_X6_isLength a3) = 0 then ((1 : Int32), Ug) else (if (f_X6_in a4.toInt64 (0 : Int64) (3 : Int64)) = 0 then ((1 : Int32), Ug) else ((0 : Int32), (vp_updL (vp_updL (vp_updL (vp_updL (vp_updL Ug (0 : Int32).toNatClampNeg a0) (1 : Int32).toNatClampNeg a1) (2 : Int32).toNatClampNeg a2.toInt64) (3 : Int32).toNatClampNeg a3) (4 : Int32).toNatClampNeg a4.toInt64)))))))
def S_X6_glue (a0 : Int64) (a1 : Int64) (a2 : Int32) (a3 : Int64) (a4 : Int32) (Th : Int32) (Ug : Nat → Int64) : Prop := ((f_X6_isLength a0) = 0 → (True)) ∧ (¬ (f_X6_isLength a0) = 0 → (((f_X6_isLength a1) = 0 → (True)) ∧ (¬ (f_X6_isLength a1) = 0 → (((f_X6_in a2.toInt64 (0 : Int64) (3 : Int64)) = 0 → (True)) ∧ (¬ (f_X6_in a2.toInt64 (0 : Int64) (3 : Int64)) = 0 → (((f_X6_isLength a3) = 0 → (True)) ∧ (¬ (f_X6_isLength a3) = 0 → (((f_X6_in a4.toInt64 (0 : Int64) (3 : Int64)) = 0 → (True)) ∧ (¬ (f_X6_in a4.toInt64 (0 : Int64) (3 : Int64)) = 0 → ((vp_in (0 : Int32) 5) ∧ ((vp_in (1 : Int32) 5) ∧ ((vp_in (2 : Int32) 5) ∧ ((vp_in (3 : Int32) 5) ∧ ((vp_in (4 : Int32) 5) ∧ (True)))))))))))))))
set_option maxHeartbeats 4000000 in
set_option maxRecDepth 100000 in
theorem c_X6_glue (l : Launch) (dC : Nat → ClassId) (dI : Nat → Nat → Nat) (cI cJ : ClassId) (ad : Nat → Nat) (hi : fI 17 ad) (sz : Nat) (Th : Int32) (Ce : Nat → Int64) (Le : Nat → Int32) (De : Int32) (Ke : Int32) (Kc : Nat → Int64) (Ko : Nat → Int32) (Kl : Nat → Int32) (Kd : Nat → Int32) (Ug : Nat → Int64) (Ur : Nat → Int64) (Va : Nat → Int64) (To : Int32) (Tt : Nat → Int32) (Td : Nat → Int32) (Go : Int32) (Gg : Nat → Int32) (Ga : Nat → Int32) (Be : Int32) (Bt : Nat → Int32) (Si : Int32) (Te : Nat → Int32) (Bz : Int32) (Bk : Nat → Int32) (a0 : Int64) (a1 : Int64) (a2 : Int32) (a3 : Int64) (a4 : Int32) (hs : S_X6_glue a0 a1 a2 a3 a4 Th Ug) : Met l yX6_glue (mW yX6_glue cX6_glue 10 none) { frames := 2, cells := 0, slots := 0, locals := 46 } (va_Pc [.ref (ad 0), .long a0, .long a1, .int a2, .long a3, .int a4] (fun U => U.heap.size = sz ∧ va_P (dC, dI) vwCl (wM ad cI cJ Th Ce Le De Ke Kc Ko Kl Kd Ug Ur Va To Tt Td Go Gg Ga Be Bt Si Te Bz Bk) U.heap ∧ va_K (dC, dI) vwCl [(cI, .int), (cJ, .long)] U)) (va_Qv (fun (_ : Unit) => True) (fun _ t => va_P (dC, dI) vwCl (wM ad cI cJ ((f_X6_glue a0 a1 a2 a3 a4 Th Ug).1) Ce Le De Ke Kc Ko Kl Kd ((f_X6_glue a0 a1 a2 a3 a4 Th Ug).2) Ur Va To Tt Td Go Gg Ga Be Bt Si Te Bz Bk) t.heap) (fA 17 ad sz)) 0 0 (fA 17 ad sz) := by
  refine Met.ofW (cc := cX6_glue) (maxL := 10) (ret := none) (by decide) rfl ?_
  intro p e s m args below meth c s₁ B hml hv
  obtain ⟨rfl, hsz, hP, hK⟩ := hv
  have hx := B.exec
  have hb := B.bytes
  have hr := B.returns
  have hts := mW_hts (atoms_spec (ws := (mW yX6_glue cX6_glue 10 none)) B.pre)
  have hown : s.vm.findClass RX6 = some m.cls := findClass_of_methodNamed B.named
  have hlocks := B.notSynchronized
  subst hsz
  have hA : ∀ (n : Nat) (q : Nat), s.heap.size ≤ n → n ≤ q → fA 17 ad s.heap.size q := fun n q h1 h2 => Or.inr (Nat.le_trans h1 h2)
  have hS : va_S (fA 17 ad s.heap.size) s.heap s.heap [] := va_S.rf
  have hA : ∀ q, s.heap.size ≤ q → (fA 17 ad s.heap.size) q := fun q h => Or.inr h
  unfold S_X6_glue at hs
  have hl := lv_entry ([.ref (ad 0), .long a0, .long a1, .int a2, .long a3, .int a4]) (n := 10) (Nat.le_of_ble_eq_true rfl)
  rw [lg_entry_eq]
  generalize (lg_sl ([.ref (ad 0), .long a0, .long a1, .int a2, .long a3, .int a4]) ++ List.replicate (10 - (lg_sl ([.ref (ad 0), .long a0, .long a1, .int a2, .long a3, .int a4])).length) Slot.unset).toArray = ls at hl ⊢
  have hl : lv_has ls 10 [(0, .ref (ad 0)), (1, .long a0), (3, .long a1), (5, .int a2), (6, .long a3), (8, .int a4)] := hl
  refine W_gen (fun Q9 hQ9 => ?_)
  refine lv_lload_n hx hb dX6_glue_0 rfl (lv_at hl 1 rfl) ?_
  refine q_X6_isLength hx hb hml hown hts mM_RX6_81 ⟨Nat.le_of_ble_eq_true rfl, Nat.le_of_ble_eq_true rfl⟩ ⟨Nat.le_of_ble_eq_true rfl, Nat.le_of_ble_eq_true rfl⟩ hl.1 (Nat.le_of_ble_eq_true rfl) hS dX6_glue_1 hA a0 (fun locs hS => ?_)
  refine lv_if_eq (tgt := 52) hx hb dX6_glue_4 (by decide) (fun c1 => ?_) (fun c1 => ?_)
  · have hs := hs.1 c1
    refine lv_iconst (v := 0) hx hb dX6_glue_52 (by decide) ?_
    refine lv_istore (lv' := [(9, .int (0 : Int32)), (0, .ref (ad 0)), (1, .long a0), (3, .long a1), (5, .int a2), (6, .long a3), (8, .int a4)]) hx hb dX6_glue_53 hl (by decide) rfl (fun ls hl => ?_)
    refine lv_aload_n hx hb dX6_glue_55 rfl (lv_at hl 1 rfl) ?_
    refine lv_iload hx hb dX6_glue_56 (lv_at hl 0 rfl) ?_
    refine lv_if_eq (tgt := 65) hx hb dX6_glue_58 (by decide) (fun c2 => ?_) (fun c2 => ?_)
    · refine lv_iconst (v := 1) hx hb dX6_glue_65 (by decide) ?_
      refine va_put (D := (dC, dI)) (ci := 8) (v := .int (1 : Int32)) (ty := .int) (C := RX6) (T := TX6) (N := 24) hx hb hts iW_X6 tyX6 tyX6_ok nmX6 hown hK hP (fA_D hi rfl) hS 0 rfl rfl 0 (by decide) (hts _ mF_RX6_61) (fun _ h9 => h9) rfl (by decide +kernel) rfl rfl (Nat.le_of_ble_eq_true rfl) dX6_glue_66 (fun H locs hP _ hS => ?_)
      have hP : va_P (dC, dI) vwCl (wM ad cI cJ (1 : Int32) Ce Le De Ke Kc Ko Kl Kd Ug Ur Va To Tt Td Go Gg Ga Be Bt Si Te Bz Bk) H := hP
      refine lv_aload_n hx hb dX6_glue_69 rfl (lv_at hl 1 rfl) ?_
      refine va_get (D := (dC, dI)) (ci := 8) (v := .int (1 : Int32)) (C := RX6) (T := TX6) (N := 24) hx hb hts iW_X6 hown hK hP 0 rfl rfl 0 (by decide) (hts _ mF_RX6_61) (fun _ h9 => h9) rfl dX6_glue_70 ?_
      refine lv_if_le (tgt := 77) hx hb dX6_glue_73 (by decide) (fun c3 => ?_) (fun c3 => ?_)
      · exact absurd c3 (by decide)
      · rw [hQ9]
        have hf : f_X6_glue a0 a1 a2 a3 a4 Th Ug = ((1 : Int32), Ug) := by simp only [f_X6_glue, if_pos c1]
        exact W.vret hx hb hr (fun t ht hW => ⟨⟨(), rfl, True.intro, by rw [hf]; show va_P (dC, dI) vwCl _ t.heap; rw [ht]; exact hP⟩, hS.F ht⟩) hS.2.2 dX6_glue_76
    · exact absurd (by decide) c2
  · have hs := hs.2 c1
    refine lv_lload_n hx hb dX6_glue_7 rfl (lv_at hl 2 rfl) ?_
    refine q_X6_isLength hx hb hml hown hts mM_RX6_81 ⟨Nat.le_of_ble_eq_true rfl, Nat.le_of_ble_eq_true rfl⟩ ⟨Nat.le_of_ble_eq_true rfl, Nat.le_of_ble_eq_true rfl⟩ hl.1 (Nat.le_of_ble_eq_true rfl) hS dX6_glue_8 hA a1 (fun locs hS => ?_)
    refine lv_if_eq (tgt := 52) hx hb dX6_glue_11 (by decide) (fun c4 => ?_) (fun c4 => ?_)
    · have hs := hs.1 c4
      refine lv_iconst (v := 0) hx hb dX6_glue_52 (by decide) ?_
      refine lv_istore (lv' := [(9, .int (0 : Int32)), (0, .ref (ad 0)), (1, .long a0), (3, .long a1), (5, .int a2), (6, .long a3), (8, .int a4)]) hx hb dX6_glue_53 hl (by decide) rfl (fun ls hl => ?_)
      refine lv_aload_n hx hb dX6_glue_55 rfl (lv_at hl 1 rfl) ?_
      refine lv_iload hx hb dX6_glue_56 (lv_at hl 0 rfl) ?_
      refine lv_if_eq (tgt := 65) hx hb dX6_glue_58 (by decide) (fun c5 => ?_) (fun c5 => ?_)
      · refine lv_iconst (v := 1) hx hb dX6_glue_65 (by decide) ?_
        refine va_put (D := (dC, dI)) (ci := 8) (v := .int (1 : Int32)) (ty := .int) (C := RX6) (T := TX6) (N := 24) hx hb hts iW_X6 tyX6 tyX6_ok nmX6 hown hK hP (fA_D hi rfl) hS 0 rfl rfl 0 (by decide) (hts _ mF_RX6_61) (fun _ h9 => h9) rfl (by decide +kernel) rfl rfl (Nat.le_of_ble_eq_true rfl) dX6_glue_66 (fun H locs hP _ hS => ?_)
        have hP : va_P (dC, dI) vwCl (wM ad cI cJ (1 : Int32) Ce Le De Ke Kc Ko Kl Kd Ug Ur Va To Tt Td Go Gg Ga Be Bt Si Te Bz Bk) H := hP
        refine lv_aload_n hx hb dX6_glue_69 rfl (lv_at hl 1 rfl) ?_
        refine va_get (D := (dC, dI)) (ci := 8) (v := .int (1 : Int32)) (C := RX6) (T := TX6) (N := 24) hx hb hts iW_X6 hown hK hP 0 rfl rfl 0 (by decide) (hts _ mF_RX6_61) (fun _ h9 => h9) rfl dX6_glue_70 ?_
        refine lv_if_le (tgt := 77) hx hb dX6_glue_73 (by decide) (fun c6 => ?_) (fun c6 => ?_)
        · exact absurd c6 (by decide)
        · rw [hQ9]
          have hf : f_X6_glue a0 a1 a2 a3 a4 Th Ug = ((1 : Int32), Ug) := by simp only [f_X6_glue, if_neg c1, if_pos c4]
          exact W.vret hx hb hr (fun t ht hW => ⟨⟨(), rfl, True.intro, by rw [hf]; show va_P (dC, dI) vwCl _ t.heap; rw [ht]; exact hP⟩, hS.F ht⟩) hS.2.2 dX6_glue_76
      · exact absurd (by decide) c5
    · have hs := hs.2 c4
      refine lv_iload hx hb dX6_glue_14 (lv_at hl 3 rfl) ?_
      refine lv_i2l hx hb dX6_glue_16 rfl ?_
      refine lv_lconst (v := 0) hx hb dX6_glue_17 (by decide) ?_
      refine lv_ldc2 hx hb hown (hts _ mK_RX6_85) dX6_glue_18 ?_
      refine q_X6_in hx hb hml hown hts mM_RX6_67 ⟨Nat.le_of_ble_eq_true rfl, Nat.le_of_ble_eq_true rfl⟩ ⟨Nat.le_of_ble_eq_true rfl, Nat.le_of_ble_eq_true rfl⟩ hl.1 (Nat.le_of_ble_eq_true rfl) hS dX6_glue_21 hA a2.toInt64 (0 : Int64) (3 : Int64) (fun locs hS => ?_)
      refine lv_if_eq (tgt := 52) hx hb dX6_glue_24 (by decide) (fun c7 => ?_) (fun c7 => ?_)
      · have hs := hs.1 c7
        refine lv_iconst (v := 0) hx hb dX6_glue_52 (by decide) ?_
        refine lv_istore (lv' := [(9, .int (0 : Int32)), (0, .ref (ad 0)), (1, .long a0), (3, .long a1), (5, .int a2), (6, .long a3), (8, .int a4)]) hx hb dX6_glue_53 hl (by decide) rfl (fun ls hl => ?_)
        refine lv_aload_n hx hb dX6_glue_55 rfl (lv_at hl 1 rfl) ?_
        refine lv_iload hx hb dX6_glue_56 (lv_at hl 0 rfl) ?_
        refine lv_if_eq (tgt := 65) hx hb dX6_glue_58 (by decide) (fun c8 => ?_) (fun c8 => ?_)
        · refine lv_iconst (v := 1) hx hb dX6_glue_65 (by decide) ?_
          refine va_put (D := (dC, dI)) (ci := 8) (v := .int (1 : Int32)) (ty := .int) (C := RX6) (T := TX6) (N := 24) hx hb hts iW_X6 tyX6 tyX6_ok nmX6 hown hK hP (fA_D hi rfl) hS 0 rfl rfl 0 (by decide) (hts _ mF_RX6_61) (fun _ h9 => h9) rfl (by decide +kernel) rfl rfl (Nat.le_of_ble_eq_true rfl) dX6_glue_66 (fun H locs hP _ hS => ?_)
          have hP : va_P (dC, dI) vwCl (wM ad cI cJ (1 : Int32) Ce Le De Ke Kc Ko Kl Kd Ug Ur Va To Tt Td Go Gg Ga Be Bt Si Te Bz Bk) H := hP
          refine lv_aload_n hx hb dX6_glue_69 rfl (lv_at hl 1 rfl) ?_
          refine va_get (D := (dC, dI)) (ci := 8) (v := .int (1 : Int32)) (C := RX6) (T := TX6) (N := 24) hx hb hts iW_X6 hown hK hP 0 rfl rfl 0 (by decide) (hts _ mF_RX6_61) (fun _ h9 => h9) rfl dX6_glue_70 ?_
          refine lv_if_le (tgt := 77) hx hb dX6_glue_73 (by decide) (fun c9 => ?_) (fun c9 => ?_)
          · exact absurd c9 (by decide)
          · rw [hQ9]
            have hf : f_X6_glue a0 a1 a2 a3 a4 Th Ug = ((1 : Int32), Ug) := by simp only [f_X6_glue, if_neg c1, if_neg c4, if_pos c7]
            exact W.vret hx hb hr (fun t ht hW => ⟨⟨(), rfl, True.intro, by rw [hf]; show va_P (dC, dI) vwCl _ t.heap; rw [ht]; exact hP⟩, hS.F ht⟩) hS.2.2 dX6_glue_76
        · exact absurd (by decide) c8
      · have hs := hs.2 c7
        refine lv_lload hx hb dX6_glue_27 (lv_at hl 4 rfl) ?_
        refine q_X6_isLength hx hb hml hown hts mM_RX6_81 ⟨Nat.le_of_ble_eq_true rfl, Nat.le_of_ble_eq_true rfl⟩ ⟨Nat.le_of_ble_eq_true rfl, Nat.le_of_ble_eq_true rfl⟩ hl.1 (Nat.le_of_ble_eq_true rfl) hS dX6_glue_29 hA a3 (fun locs hS => ?_)
        refine lv_if_eq (tgt := 52) hx hb dX6_glue_32 (by decide) (fun c10 => ?_) (fun c10 => ?_)
        · have hs := hs.1 c10
          refine lv_iconst (v := 0) hx hb dX6_glue_52 (by decide) ?_
          refine lv_istore (lv' := [(9, .int (0 : Int32)), (0, .ref (ad 0)), (1, .long a0), (3, .long a1), (5, .int a2), (6, .long a3), (8, .int a4)]) hx hb dX6_glue_53 hl (by decide) rfl (fun ls hl => ?_)
          refine lv_aload_n hx hb dX6_glue_55 rfl (lv_at hl 1 rfl) ?_
          refine lv_iload hx hb dX6_glue_56 (lv_at hl 0 rfl) ?_
          refine lv_if_eq (tgt := 65) hx hb dX6_glue_58 (by decide) (fun c11 => ?_) (fun c11 => ?_)
          · refine lv_iconst (v := 1) hx hb dX6_glue_65 (by decide) ?_
            refine va_put (D := (dC, dI)) (ci := 8) (v := .int (1 : Int32)) (ty := .int) (C := RX6) (T := TX6) (N := 24) hx hb hts iW_X6 tyX6 tyX6_ok nmX6 hown hK hP (fA_D hi rfl) hS 0 rfl rfl 0 (by decide) (hts _ mF_RX6_61) (fun _ h9 => h9) rfl (by decide +kernel) rfl rfl (Nat.le_of_ble_eq_true rfl) dX6_glue_66 (fun H locs hP _ hS => ?_)
            have hP : va_P (dC, dI) vwCl (wM ad cI cJ (1 : Int32) Ce Le De Ke Kc Ko Kl Kd Ug Ur Va To Tt Td Go Gg Ga Be Bt Si Te Bz Bk) H := hP
            refine lv_aload_n hx hb dX6_glue_69 rfl (lv_at hl 1 rfl) ?_
            refine va_get (D := (dC, dI)) (ci := 8) (v := .int (1 : Int32)) (C := RX6) (T := TX6) (N := 24) hx hb hts iW_X6 hown hK hP 0 rfl rfl 0 (by decide) (hts _ mF_RX6_61) (fun _ h9 => h9) rfl dX6_glue_70 ?_
            refine lv_if_le (tgt := 77) hx hb dX6_glue_73 (by decide) (fun c12 => ?_) (fun c12 => ?_)
            · exact absurd c12 (by decide)
            · rw [hQ9]
              have hf : f_X6_glue a0 a1 a2 a3 a4 Th Ug = ((1 : Int32), Ug) := by simp only [f_X6_glue, if_neg c1, if_neg c4, if_neg c7, if_pos c10]
              exact W.vret hx hb hr (fun t ht hW => ⟨⟨(), rfl, True.intro, by rw [hf]; show va_P (dC, dI) vwCl _ t.heap; rw [ht]; exact hP⟩, hS.F ht⟩) hS.2.2 dX6_glue_76
          · exact absurd (by decide) c11
        · have hs := hs.2 c10
          refine lv_iload hx hb dX6_glue_35 (lv_at hl 5 rfl) ?_
          refine lv_i2l hx hb dX6_glue_37 rfl ?_
          refine lv_lconst (v := 0) hx hb dX6_glue_38 (by decide) ?_
          refine lv_ldc2 hx hb hown (hts _ mK_RX6_85) dX6_glue_39 ?_
          refine q_X6_in hx hb hml hown hts mM_RX6_67 ⟨Nat.le_of_ble_eq_true rfl, Nat.le_of_ble_eq_true rfl⟩ ⟨Nat.le_of_ble_eq_true rfl, Nat.le_of_ble_eq_true rfl⟩ hl.1 (Nat.le_of_ble_eq_true rfl) hS dX6_glue_42 hA a4.toInt64 (0 : Int64) (3 : Int64) (fun locs hS => ?_)
          refine lv_if_eq (tgt := 52) hx hb dX6_glue_45 (by decide) (fun c13 => ?_) (fun c13 => ?_)
          · have hs := hs.1 c13
            refine lv_iconst (v := 0) hx hb dX6_glue_52 (by decide) ?_
            refine lv_istore (lv' := [(9, .int (0 : Int32)), (0, .ref (ad 0)), (1, .long a0), (3, .long a1), (5, .int a2), (6, .long a3), (8, .int a4)]) hx hb dX6_glue_53 hl (by decide) rfl (fun ls hl => ?_)
            refine lv_aload_n hx hb dX6_glue_55 rfl (lv_at hl 1 rfl) ?_
            refine lv_iload hx hb dX6_glue_56 (lv_at hl 0 rfl) ?_
            refine lv_if_eq (tgt := 65) hx hb dX6_glue_58 (by decide) (fun c14 => ?_) (fun c14 => ?_)
            · refine lv_iconst (v := 1) hx hb dX6_glue_65 (by decide) ?_
              refine va_put (D := (dC, dI)) (ci := 8) (v := .int (1 : Int32)) (ty := .int) (C := RX6) (T := TX6) (N := 24) hx hb hts iW_X6 tyX6 tyX6_ok nmX6 hown hK hP (fA_D hi rfl) hS 0 rfl rfl 0 (by decide) (hts _ mF_RX6_61) (fun _ h9 => h9) rfl (by decide +kernel) rfl rfl (Nat.le_of_ble_eq_true rfl) dX6_glue_66 (fun H locs hP _ hS => ?_)
              have hP : va_P (dC, dI) vwCl (wM ad cI cJ (1 : Int32) Ce Le De Ke Kc Ko Kl Kd Ug Ur Va To Tt Td Go Gg Ga Be Bt Si Te Bz Bk) H := hP
              refine lv_aload_n hx hb dX6_glue_69 rfl (lv_at hl 1 rfl) ?_
              refine va_get (D := (dC, dI)) (ci := 8) (v := .int (1 : Int32)) (C := RX6) (T := TX6) (N := 24) hx hb hts iW_X6 hown hK hP 0 rfl rfl 0 (by decide) (hts _ mF_RX6_61) (fun _ h9 => h9) rfl dX6_glue_70 ?_
              refine lv_if_le (tgt := 77) hx hb dX6_glue_73 (by decide) (fun c15 => ?_) (fun c15 => ?_)
              · exact absurd c15 (by decide)
              · rw [hQ9]
                have hf : f_X6_glue a0 a1 a2 a3 a4 Th Ug = ((1 : Int32), Ug) := by simp only [f_X6_glue, if_neg c1, if_neg c4, if_neg c7, if_neg c10, if_pos c13]
                exact W.vret hx hb hr (fun t ht hW => ⟨⟨(), rfl, True.intro, by rw [hf]; show va_P (dC, dI) vwCl _ t.heap; rw [ht]; exact hP⟩, hS.F ht⟩) hS.2.2 dX6_glue_76
            · exact absurd (by decide) c14
          · have hs := hs.2 c13
            refine lv_iconst (v := 1) hx hb dX6_glue_48 (by decide) ?_
            refine lv_goto (tgt := 53) hx hb dX6_glue_49 (by decide) ?_
            refine lv_istore (lv' := [(9, .int (1 : Int32)), (0, .ref (ad 0)), (1, .long a0), (3, .long a1), (5, .int a2), (6, .long a3), (8, .int a4)]) hx hb dX6_glue_53 hl (by decide) rfl (fun ls hl => ?_)
            refine lv_aload_n hx hb dX6_glue_55 rfl (lv_at hl 1 rfl) ?_
            refine lv_iload hx hb dX6_glue_56 (lv_at hl 0 rfl) ?_
            refine lv_if_eq (tgt := 65) hx hb dX6_glue_58 (by decide) (fun c16 => ?_) (fun c16 => ?_)
            · exact absurd c16 (by decide)
            · refine lv_iconst (v := 0) hx hb dX6_glue_61 (by decide) ?_
              refine lv_goto (tgt := 66) hx hb dX6_glue_62 (by decide) ?_
              refine va_put (D := (dC, dI)) (ci := 8) (v := .int (0 : Int32)) (ty := .int) (C := RX6) (T := TX6) (N := 24) hx hb hts iW_X6 tyX6 tyX6_ok nmX6 hown hK hP (fA_D hi rfl) hS 0 rfl rfl 0 (by decide) (hts _ mF_RX6_61) (fun _ h9 => h9) rfl (by decide +kernel) rfl rfl (Nat.le_of_ble_eq_true rfl) dX6_glue_66 (fun H locs hP _ hS => ?_)
              have hP : va_P (dC, dI) vwCl (wM ad cI cJ (0 : Int32) Ce Le De Ke Kc Ko Kl Kd Ug Ur Va To Tt Td Go Gg Ga Be Bt Si Te Bz Bk) H := hP
              refine lv_aload_n hx hb dX6_glue_69 rfl (lv_at hl 1 rfl) ?_
              refine va_get (D := (dC, dI)) (ci := 8) (v := .int (0 : Int32)) (C := RX6) (T := TX6) (N := 24) hx hb hts iW_X6 hown hK hP 0 rfl rfl 0 (by decide) (hts _ mF_RX6_61) (fun _ h9 => h9) rfl dX6_glue_70 ?_
              refine lv_if_le (tgt := 77) hx hb dX6_glue_73 (by decide) (fun c17 => ?_) (fun c17 => ?_)
              · refine lv_aload_n hx hb dX6_glue_77 rfl (lv_at hl 1 rfl) ?_
                refine va_get (D := (dC, dI)) (ci := 8) (v := .ref (ad 7)) (C := RX6) (T := TX6) (N := 24) hx hb hts iW_X6 hown hK hP 0 rfl rfl 9 (by decide) (hts _ mF_RX6_29) (fun _ h9 => h9) rfl dX6_glue_78 ?_
                refine lv_iconst (v := 0) hx hb dX6_glue_81 (by decide) ?_
                refine lv_lload_n hx hb dX6_glue_82 rfl (lv_at hl 2 rfl) ?_
                obtain ⟨h18, hs⟩ := hs
                refine va_last hx hb hK hP (fA_D hi rfl) hS 7 1 rfl rfl h18 dX6_glue_83 (fun H locs hP _ hS => ?_)
                have hP : va_P (dC, dI) vwCl (wM ad cI cJ (0 : Int32) Ce Le De Ke Kc Ko Kl Kd (vp_updL Ug (0 : Int32).toNatClampNeg a0) Ur Va To Tt Td Go Gg Ga Be Bt Si Te Bz Bk) H := hP
                refine lv_aload_n hx hb dX6_glue_84 rfl (lv_at hl 1 rfl) ?_
                refine va_get (D := (dC, dI)) (ci := 8) (v := .ref (ad 7)) (C := RX6) (T := TX6) (N := 24) hx hb hts iW_X6 hown hK hP 0 rfl rfl 9 (by decide) (hts _ mF_RX6_29) (fun _ h9 => h9) rfl dX6_glue_85 ?_
                refine lv_iconst (v := 1) hx hb dX6_glue_88 (by decide) ?_
                refine lv_lload_n hx hb dX6_glue_89 rfl (lv_at hl 3 rfl) ?_
                obtain ⟨h19, hs⟩ := hs
                refine va_last hx hb hK hP (fA_D hi rfl) hS 7 1 rfl rfl h19 dX6_glue_90 (fun H locs hP _ hS => ?_)
                have hP : va_P (dC, dI) vwCl (wM ad cI cJ (0 : Int32) Ce Le De Ke Kc Ko Kl Kd (vp_updL (vp_updL Ug (0 : Int32).toNatClampNeg a0) (1 : Int32).toNatClampNeg a1) Ur Va To Tt Td Go Gg Ga Be Bt Si Te Bz Bk) H := hP
                refine lv_aload_n hx hb dX6_glue_91 rfl (lv_at hl 1 rfl) ?_
                refine va_get (D := (dC, dI)) (ci := 8) (v := .ref (ad 7)) (C := RX6) (T := TX6) (N := 24) hx hb hts iW_X6 hown hK hP 0 rfl rfl 9 (by decide) (hts _ mF_RX6_29) (fun _ h9 => h9) rfl dX6_glue_92 ?_
                refine lv_iconst (v := 2) hx hb dX6_glue_95 (by decide) ?_
                refine lv_iload hx hb dX6_glue_96 (lv_at hl 4 rfl) ?_
                refine lv_i2l hx hb dX6_glue_98 rfl ?_
                obtain ⟨h20, hs⟩ := hs
                refine va_last hx hb hK hP (fA_D hi rfl) hS 7 1 rfl rfl h20 dX6_glue_99 (fun H locs hP _ hS => ?_)
                have hP : va_P (dC, dI) vwCl (wM ad cI cJ (0 : Int32) Ce Le De Ke Kc Ko Kl Kd (vp_updL (vp_updL (vp_updL Ug (0 : Int32).toNatClampNeg a0) (1 : Int32).toNatClampNeg a1) (2 : Int32).toNatClampNeg a2.toInt64) Ur Va To Tt Td Go Gg Ga Be Bt Si Te Bz Bk) H := hP
                refine lv_aload_n hx hb dX6_glue_100 rfl (lv_at hl 1 rfl) ?_
                refine va_get (D := (dC, dI)) (ci := 8) (v := .ref (ad 7)) (C := RX6) (T := TX6) (N := 24) hx hb hts iW_X6 hown hK hP 0 rfl rfl 9 (by decide) (hts _ mF_RX6_29) (fun _ h9 => h9) rfl dX6_glue_101 ?_
                refine lv_iconst (v := 3) hx hb dX6_glue_104 (by decide) ?_
                refine lv_lload hx hb dX6_glue_105 (lv_at hl 5 rfl) ?_
                obtain ⟨h21, hs⟩ := hs
                refine va_last hx hb hK hP (fA_D hi rfl) hS 7 1 rfl rfl h21 dX6_glue_107 (fun H locs hP _ hS => ?_)
                have hP : va_P (dC, dI) vwCl (wM ad cI cJ (0 : Int32) Ce Le De Ke Kc Ko Kl Kd (vp_updL (vp_updL (vp_updL (vp_updL Ug (0 : Int32).toNatClampNeg a0) (1 : Int32).toNatClampNeg a1) (2 : Int32).toNatClampNeg a2.toInt64) (3 : Int32).toNatClampNeg a3) Ur Va To Tt Td Go Gg Ga Be Bt Si Te Bz Bk) H := hP
                refine lv_aload_n hx hb dX6_glue_108 rfl (lv_at hl 1 rfl) ?_
                refine va_get (D := (dC, dI)) (ci := 8) (v := .ref (ad 7)) (C := RX6) (T := TX6) (N := 24) hx hb hts iW_X6 hown hK hP 0 rfl rfl 9 (by decide) (hts _ mF_RX6_29) (fun _ h9 => h9) rfl dX6_glue_109 ?_
                refine lv_iconst (v := 4) hx hb dX6_glue_112 (by decide) ?_
                refine lv_iload hx hb dX6_glue_113 (lv_at hl 6 rfl) ?_
                refine lv_i2l hx hb dX6_glue_115 rfl ?_
                obtain ⟨h22, hs⟩ := hs
                refine va_last hx hb hK hP (fA_D hi rfl) hS 7 1 rfl rfl h22 dX6_glue_116 (fun H locs hP _ hS => ?_)
                have hP : va_P (dC, dI) vwCl (wM ad cI cJ (0 : Int32) Ce Le De Ke Kc Ko Kl Kd (vp_updL (vp_updL (vp_updL (vp_updL (vp_updL Ug (0 : Int32).toNatClampNeg a0) (1 : Int32).toNatClampNeg a1) (2 : Int32).toNatClampNeg a2.toInt64) (3 : Int32).toNatClampNeg a3) (4 : Int32).toNatClampNeg a4.toInt64) Ur Va To Tt Td Go Gg Ga Be Bt Si Te Bz Bk) H := hP
                rw [hQ9]
                have hf : f_X6_glue a0 a1 a2 a3 a4 Th Ug = ((0 : Int32), (vp_updL (vp_updL (vp_updL (vp_updL (vp_updL Ug (0 : Int32).toNatClampNeg a0) (1 : Int32).toNatClampNeg a1) (2 : Int32).toNatClampNeg a2.toInt64) (3 : Int32).toNatClampNeg a3) (4 : Int32).toNatClampNeg a4.toInt64)) := by simp only [f_X6_glue, if_neg c1, if_neg c4, if_neg c7, if_neg c10, if_neg c13]
                exact W.vret hx hb hr (fun t ht hW => ⟨⟨(), rfl, True.intro, by rw [hf]; show va_P (dC, dI) vwCl _ t.heap; rw [ht]; exact hP⟩, hS.F ht⟩) hS.2.2 dX6_glue_117
              · exact absurd (by decide) c17
theorem q_X6_glue {p : Program} {l : Launch} {e : Env} {R : Room} {s : State} {m : MethodId} {args : Array Value} {below : List Frame} {meth : Method} {c : Code} {H : Heap} {locs : List Loc} {cells slots : Nat} {Q : State → Prop} {pc : Nat} {ls : Array Slot} {rest : List Value} {cc : ByteArray} {nL idx : Nat} {own : String} {A0 : Nat → Prop} {dC : Nat → ClassId} {dI : Nat → Nat → Nat} {cI cJ : ClassId} {ad : Nat → Nat} {Th : Int32} {Ce : Nat → Int64} {Le : Nat → Int32} {De : Int32} {Ke : Int32} {Kc : Nat → Int64} {Ko : Nat → Int32} {Kl : Nat → Int32} {Kd : Nat → Int32} {Ug : Nat → Int64} {Ur : Nat → Int64} {Va : Nat → Int64} {To : Int32} {Tt : Nat → Int32} {Td : Nat → Int32} {Go : Int32} {Gg : Nat → Int32} {Ga : Nat → Int32} {Be : Int32} {Bt : Nat → Int32} {Si : Int32} {Te : Nat → Int32} {Bz : Int32} {Bk : Nat → Int32} (hx : p.tables.exec = Jvm.exec) (hb : c.code = cc) (hml : c.maxLocals = nL) (hown : s.vm.findClass own = some m.cls) (hts : ∀ w ∈ bigW, w.before args s = true) (hlk : Cond.methodLink own idx yX6_glue ∈ bigW) (hR : 3 ≤ R.frames ∧ 75 ≤ R.locals) (hf : cells + 0 ≤ R.cells ∧ slots + 0 ≤ R.slots) (hz : ls.size = nL) (hw : (rest.map fun v => v.category).sum ≤ 8) (hS : va_S A0 s.heap H locs) (hd : decode cc pc = .ok (.invokevirtual idx, 3)) (hA : ∀ q, fA 17 ad H.size q → A0 q) (hi : fI 17 ad) (hK : va_K (dC, dI) vwCl [(cI, .int), (cJ, .long)] s) (hP : va_P (dC, dI) vwCl (wM ad cI cJ Th Ce Le De Ke Kc Ko Kl Kd Ug Ur Va To Tt Td Go Gg Ga Be Bt Si Te Bz Bk) H) (a0 : Int64) (a1 : Int64) (a2 : Int32) (a3 : Int64) (a4 : Int32) (hs : S_X6_glue a0 a1 a2 a3 a4 Th Ug)  (u : Int32 × (Nat → Int64)) (hu : u = f_X6_glue a0 a1 a2 a3 a4 Th Ug) (k : ∀ (H1 : Heap) (locs1 : List Loc), va_P (dC, dI) vwCl (wM ad cI cJ u.1 Ce Le De Ke Kc Ko Kl Kd u.2 Ur Va To Tt Td Go Gg Ga Be Bt Si Te Bz Bk) H1 → va_S A0 s.heap H1 locs1 → W p l e R s m args below meth c H1 locs1 (cells + 0) (slots + 0) Q (F0 m (pc + 3) ls (rest))) : W p l e R s m args below meth c H locs cells slots Q (F0 m pc ls (.int a4 :: .long a3 :: .int a2 :: .long a1 :: .long a0 :: .ref (ad 0) :: rest)) := by
  subst hu
  exact va_callv (va_runV (As := [.long a0, .long a1, .int a2, .long a3, .int a4]) (rest := rest) ⟨hx, hb, hml, hown, hts⟩ (c_X6_glue l dC dI cI cJ ad hi H.size Th Ce Le De Ke Kc Ko Kl Kd Ug Ur Va To Tt Td Go Gg Ga Be Bt Si Te Bz Bk a0 a1 a2 a3 a4 hs) (kV 5 hts hlk mI_X6_glue mN_RX6 mY_X6_glue mV_X6_glue rfl rfl (by decide +kernel) hR) ⟨fun a U g mk q => ⟨q.1, q.2.1, q.2.2.1, va_K.moved (u := U) (U := U.calling g mk a) (Vm.Alike.refl U.vm) q.2.2.2⟩, va_recv hK hP (ci := 8) (q0 := 0) rfl rfl, fun U hU hW => ⟨rfl, by rw [hU], by rw [hU]; exact hP, va_K.moved hW.alike hK⟩⟩ rfl rfl hz rfl (lv_room hw) hd hf) hS (fun q _ h => hA q h) (fun q h => hA q h) (fun u t H1 locs1 ht hvm hw9 hB hz1 hk1 hS1 => by
    skip
    exact k H1 locs1 (by rw [← ht]; exact hB) hS1)
theorem qf_X6_glue {p : Program} {l : Launch} {e : Env} {R : Room} {s : State} {m : MethodId} {args : Array Value} {below : List Frame} {meth : Method} {c : Code} {H : Heap} {locs : List Loc} {cells slots : Nat} {Q : State → Prop} {pc : Nat} {ls : Array Slot} {rest : List Value} {cc : ByteArray} {nL idx : Nat} {own : String} {A0 : Nat → Prop} {dC : Nat → ClassId} {dI : Nat → Nat → Nat} {cI cJ : ClassId} {ad : Nat → Nat} {Th : Int32} {Ce : Nat → Int64} {Le : Nat → Int32} {De : Int32} {Ke : Int32} {Kc : Nat → Int64} {Ko : Nat → Int32} {Kl : Nat → Int32} {Kd : Nat → Int32} {Ug : Nat → Int64} {Ur : Nat → Int64} {Va : Nat → Int64} {To : Int32} {Tt : Nat → Int32} {Td : Nat → Int32} {Go : Int32} {Gg : Nat → Int32} {Ga : Nat → Int32} {Be : Int32} {Bt : Nat → Int32} {Si : Int32} {Te : Nat → Int32} {Bz : Int32} {Bk : Nat → Int32} (hx : p.tables.exec = Jvm.exec) (hb : c.code = cc) (hml : c.maxLocals = nL) (hown : s.vm.findClass own = some m.cls) (hts : ∀ w ∈ bigW, w.before args s = true) (hlk : Cond.methodLink own idx yX6_glue ∈ bigW) (hR : 3 ≤ R.frames ∧ 75 ≤ R.locals) (hf : cells + 0 ≤ R.cells ∧ slots + 0 ≤ R.slots) (hz : ls.size = nL) (hw : (rest.map fun v => v.category).sum ≤ 8) (hS : va_S A0 s.heap H locs) (hd : decode cc pc = .ok (.invokevirtual idx, 3)) (hA : ∀ q, fA 17 ad H.size q → A0 q) (hi : fI 17 ad) (hK : va_K (dC, dI) vwCl [(cI, .int), (cJ, .long)] s) (hP : va_P (dC, dI) vwCl (wM ad cI cJ Th Ce Le De Ke Kc Ko Kl Kd Ug Ur Va To Tt Td Go Gg Ga Be Bt Si Te Bz Bk) H) (a0 : Int64) (a1 : Int64) (a2 : Int32) (a3 : Int64) (a4 : Int32) (hs : S_X6_glue a0 a1 a2 a3 a4 Th Ug)  (u : Int32 × (Nat → Int64)) (hu : u = f_X6_glue a0 a1 a2 a3 a4 Th Ug) (k : ∀ (H1 : Heap) (locs1 : List Loc), va_P (dC, dI) vwCl (wM ad cI cJ u.1 Ce Le De Ke Kc Ko Kl Kd u.2 Ur Va To Tt Td Go Gg Ga Be Bt Si Te Bz Bk) H1 → va_S A0 s.heap H1 locs1 → (∀ q : Nat, q < H.size → ¬ fA 17 ad H.size q → H1[q]? = H[q]?) → H.size ≤ H1.size → W p l e R s m args below meth c H1 locs1 (cells + 0) (slots + 0) Q (F0 m (pc + 3) ls (rest))) : W p l e R s m args below meth c H locs cells slots Q (F0 m pc ls (.int a4 :: .long a3 :: .int a2 :: .long a1 :: .long a0 :: .ref (ad 0) :: rest)) := by
  subst hu
  exact va_callv (va_runV (As := [.long a0, .long a1, .int a2, .long a3, .int a4]) (rest := rest) ⟨hx, hb, hml, hown, hts⟩ (c_X6_glue l dC dI cI cJ ad hi H.size Th Ce Le De Ke Kc Ko Kl Kd Ug Ur Va To Tt Td Go Gg Ga Be Bt Si Te Bz Bk a0 a1 a2 a3 a4 hs) (kV 5 hts hlk mI_X6_glue mN_RX6 mY_X6_glue mV_X6_glue rfl rfl (by decide +kernel) hR) ⟨fun a U g mk q => ⟨q.1, q.2.1, q.2.2.1, va_K.moved (u := U) (U := U.calling g mk a) (Vm.Alike.refl U.vm) q.2.2.2⟩, va_recv hK hP (ci := 8) (q0 := 0) rfl rfl, fun U hU hW => ⟨rfl, by rw [hU], by rw [hU]; exact hP, va_K.moved hW.alike hK⟩⟩ rfl rfl hz rfl (lv_room hw) hd hf) hS (fun q _ h => hA q h) (fun q h => hA q h) (fun u t H1 locs1 ht hvm hw9 hB hz1 hk1 hS1 => by
    skip
    exact k H1 locs1 (by rw [← ht]; exact hB) hS1 hk1 hz1)

theorem nb_isLength (v : Int64) : narrow .boolean (.int (f_X6_isLength v)) = .int (f_X6_isLength v) := nb_in _ _ _

def f_X6_isWithin (a0 : Int32) (Va : Nat → Int64) : Int32 := (if a0 = 0 then (f_X6_in (Va (0 : Int32).toNatClampNeg) (-2147483647 : Int64) (2147483647 : Int64)) else (if a0 = (1 : Int32) then (f_X6_isLength (Va (0 : Int32).toNatClampNeg)) else (if a0 = (2 : Int32) then (if (f_X6_isLength (Va (0 : Int32).toNatClampNeg)) = 0 then (0 : Int32) else (if (f_X6_isLength (Va (1 : Int32).toNatClampNeg)) = 0 then (0 : Int32) else (if (f_X6_isLength (Va (3 : Int32).toNatClampNeg)) = 0 then (0 : Int32) else (1 : Int32)))) else (1 : Int32))))
def S_X6_isWithin (a0 : Int32) (Va : Nat → Int64) : Prop := (a0 = 0 → ((vp_in (0 : Int32) 21) ∧ (True))) ∧ (¬ a0 = 0 → ((a0 = (1 : Int32) → ((vp_in (0 : Int32) 21) ∧ (True))) ∧ (¬ a0 = (1 : Int32) → ((a0 = (2 : Int32) → ((vp_in (0 : Int32) 21) ∧ (((f_X6_isLength (Va (0 : Int32).toNatClampNeg)) = 0 → (True)) ∧ (¬ (f_X6_isLength (Va (0 : Int32).toNatClampNeg)) = 0 → ((vp_in (1 : Int32) 21) ∧ (((f_X6_isLength (Va (1 : Int32).toNatClampNeg)) = 0 → (True)) ∧ (¬ (f_X6_isLength (Va (1 : Int32).toNatClampNeg)) = 0 → ((vp_in (3 : Int32) 21) ∧ (((f_X6_isLength (Va (3 : Int32).toNatClampNeg)) = 0 → (True)) ∧ (¬ (f_X6_isLength (Va (3 : Int32).toNatClampNeg)) = 0 → (True))))))))))) ∧ (¬ a0 = (2 : Int32) → (True))))))
set_option maxHeartbeats 4000000 in
set_option maxRecDepth 100000 in
theorem c_X6_isWithin (l : Launch) (dC : Nat → ClassId) (dI : Nat → Nat → Nat) (cI cJ : ClassId) (ad : Nat → Nat) (hi : fI 17 ad) (sz : Nat) (Th : Int32) (Ce : Nat → Int64) (Le : Nat → Int32) (De : Int32) (Ke : Int32) (Kc : Nat → Int64) (Ko : Nat → Int32) (Kl : Nat → Int32) (Kd : Nat → Int32) (Ug : Nat → Int64) (Ur : Nat → Int64) (Va : Nat → Int64) (To : Int32) (Tt : Nat → Int32) (Td : Nat → Int32) (Go : Int32) (Gg : Nat → Int32) (Ga : Nat → Int32) (Be : Int32) (Bt : Nat → Int32) (Si : Int32) (Te : Nat → Int32) (Bz : Int32) (Bk : Nat → Int32) (a0 : Int32) (hs : S_X6_isWithin a0 Va) : Met l yX6_isWithin (mW yX6_isWithin cX6_isWithin 2 (some .boolean)) { frames := 2, cells := 0, slots := 0, locals := 46 } (va_Pc [.ref (ad 0), .int a0] (fun U => U.heap.size = sz ∧ va_P (dC, dI) vwCl (wM ad cI cJ Th Ce Le De Ke Kc Ko Kl Kd Ug Ur Va To Tt Td Go Gg Ga Be Bt Si Te Bz Bk) U.heap ∧ va_K (dC, dI) vwCl [(cI, .int), (cJ, .long)] U)) (va_Qi (fun (r : Int32) (_ : Unit) => r = f_X6_isWithin a0 Va) (fun _ t => va_P (dC, dI) vwCl (wM ad cI cJ Th Ce Le De Ke Kc Ko Kl Kd Ug Ur Va To Tt Td Go Gg Ga Be Bt Si Te Bz Bk) t.heap) (fA 17 ad sz)) 0 0 (fA 17 ad sz) := by
  refine Met.ofW (cc := cX6_isWithin) (maxL := 2) (ret := (some .boolean)) (by decide) rfl ?_
  intro p e s m args below meth c s₁ B hml hv
  obtain ⟨rfl, hsz, hP, hK⟩ := hv
  have hx := B.exec
  have hb := B.bytes
  have hr := B.returns
  have hts := mW_hts (atoms_spec (ws := (mW yX6_isWithin cX6_isWithin 2 (some .boolean))) B.pre)
  have hown : s.vm.findClass RX6 = some m.cls := findClass_of_methodNamed B.named
  have hlocks := B.notSynchronized
  subst hsz
  have hA : ∀ (n : Nat) (q : Nat), s.heap.size ≤ n → n ≤ q → fA 17 ad s.heap.size q := fun n q h1 h2 => Or.inr (Nat.le_trans h1 h2)
  have hS : va_S (fA 17 ad s.heap.size) s.heap s.heap [] := va_S.rf
  have hA : ∀ q, s.heap.size ≤ q → (fA 17 ad s.heap.size) q := fun q h => Or.inr h
  unfold S_X6_isWithin at hs
  have hl := lv_entry ([.ref (ad 0), .int a0]) (n := 2) (Nat.le_of_ble_eq_true rfl)
  rw [lg_entry_eq]
  generalize (lg_sl ([.ref (ad 0), .int a0]) ++ List.replicate (2 - (lg_sl ([.ref (ad 0), .int a0])).length) Slot.unset).toArray = ls at hl ⊢
  have hl : lv_has ls 2 [(0, .ref (ad 0)), (1, .int a0)] := hl
  refine W_gen (fun Q9 hQ9 => ?_)
  refine lv_iload_n hx hb dX6_isWithin_0 rfl (lv_at hl 1 rfl) ?_
  refine lv_if_ne (tgt := 20) hx hb dX6_isWithin_1 (by decide) (fun c1 => ?_) (fun c1 => ?_)
  · have hs := hs.2 c1
    refine lv_iload_n hx hb dX6_isWithin_20 rfl (lv_at hl 1 rfl) ?_
    refine lv_iconst (v := 1) hx hb dX6_isWithin_21 (by decide) ?_
    refine lv_icmp_ne (tgt := 35) hx hb dX6_isWithin_22 (by decide) (fun c2 => ?_) (fun c2 => ?_)
    · have hs := hs.2 c2
      refine lv_iload_n hx hb dX6_isWithin_35 rfl (lv_at hl 1 rfl) ?_
      refine lv_iconst (v := 2) hx hb dX6_isWithin_36 (by decide) ?_
      refine lv_icmp_ne (tgt := 76) hx hb dX6_isWithin_37 (by decide) (fun c3 => ?_) (fun c3 => ?_)
      · have hs := hs.2 c3
        refine lv_iconst (v := 1) hx hb dX6_isWithin_76 (by decide) ?_
        refine lv_goto (tgt := 81) hx hb dX6_isWithin_77 (by decide) ?_
        rw [hQ9]
        have hf : f_X6_isWithin a0 Va = (1 : Int32) := by simp only [f_X6_isWithin, if_neg c1, if_neg c2, if_neg c3]
        exact W.zret (v := (1 : Int32)) (ty := .boolean) hx hb hr (rfl) (fun t ht hW => ⟨⟨(1 : Int32), (), rfl, by rw [hf], by show va_P (dC, dI) vwCl _ t.heap; rw [ht]; exact hP⟩, hS.F ht⟩) hS.2.2 dX6_isWithin_81
      · have hs := hs.1 c3
        refine lv_aload_n hx hb dX6_isWithin_40 rfl (lv_at hl 0 rfl) ?_
        refine va_get (D := (dC, dI)) (ci := 8) (v := .ref (ad 9)) (C := RX6) (T := TX6) (N := 24) hx hb hts iW_X6 hown hK hP 0 rfl rfl 11 (by decide) (hts _ mF_RX6_35) (fun _ h9 => h9) rfl dX6_isWithin_41 ?_
        refine lv_iconst (v := 0) hx hb dX6_isWithin_44 (by decide) ?_
        obtain ⟨h4, hs⟩ := hs
        refine va_lald hx hb hK hP 9 1 rfl rfl h4 dX6_isWithin_45 ?_
        refine q_X6_isLength hx hb hml hown hts mM_RX6_81 ⟨Nat.le_of_ble_eq_true rfl, Nat.le_of_ble_eq_true rfl⟩ ⟨Nat.le_of_ble_eq_true rfl, Nat.le_of_ble_eq_true rfl⟩ hl.1 (Nat.le_of_ble_eq_true rfl) hS dX6_isWithin_46 hA (Va (0 : Int32).toNatClampNeg) (fun locs hS => ?_)
        refine lv_if_eq (tgt := 80) hx hb dX6_isWithin_49 (by decide) (fun c5 => ?_) (fun c5 => ?_)
        · have hs := hs.1 c5
          refine lv_iconst (v := 0) hx hb dX6_isWithin_80 (by decide) ?_
          rw [hQ9]
          have hf : f_X6_isWithin a0 Va = (0 : Int32) := by simp only [f_X6_isWithin, if_neg c1, if_neg c2, if_pos c3, if_pos c5]
          exact W.zret (v := (0 : Int32)) (ty := .boolean) hx hb hr (rfl) (fun t ht hW => ⟨⟨(0 : Int32), (), rfl, by rw [hf], by show va_P (dC, dI) vwCl _ t.heap; rw [ht]; exact hP⟩, hS.F ht⟩) hS.2.2 dX6_isWithin_81
        · have hs := hs.2 c5
          refine lv_aload_n hx hb dX6_isWithin_52 rfl (lv_at hl 0 rfl) ?_
          refine va_get (D := (dC, dI)) (ci := 8) (v := .ref (ad 9)) (C := RX6) (T := TX6) (N := 24) hx hb hts iW_X6 hown hK hP 0 rfl rfl 11 (by decide) (hts _ mF_RX6_35) (fun _ h9 => h9) rfl dX6_isWithin_53 ?_
          refine lv_iconst (v := 1) hx hb dX6_isWithin_56 (by decide) ?_
          obtain ⟨h6, hs⟩ := hs
          refine va_lald hx hb hK hP 9 1 rfl rfl h6 dX6_isWithin_57 ?_
          refine q_X6_isLength hx hb hml hown hts mM_RX6_81 ⟨Nat.le_of_ble_eq_true rfl, Nat.le_of_ble_eq_true rfl⟩ ⟨Nat.le_of_ble_eq_true rfl, Nat.le_of_ble_eq_true rfl⟩ hl.1 (Nat.le_of_ble_eq_true rfl) hS dX6_isWithin_58 hA (Va (1 : Int32).toNatClampNeg) (fun locs hS => ?_)
          refine lv_if_eq (tgt := 80) hx hb dX6_isWithin_61 (by decide) (fun c7 => ?_) (fun c7 => ?_)
          · have hs := hs.1 c7
            refine lv_iconst (v := 0) hx hb dX6_isWithin_80 (by decide) ?_
            rw [hQ9]
            have hf : f_X6_isWithin a0 Va = (0 : Int32) := by simp only [f_X6_isWithin, if_neg c1, if_neg c2, if_pos c3, if_neg c5, if_pos c7]
            exact W.zret (v := (0 : Int32)) (ty := .boolean) hx hb hr (rfl) (fun t ht hW => ⟨⟨(0 : Int32), (), rfl, by rw [hf], by show va_P (dC, dI) vwCl _ t.heap; rw [ht]; exact hP⟩, hS.F ht⟩) hS.2.2 dX6_isWithin_81
          · have hs := hs.2 c7
            refine lv_aload_n hx hb dX6_isWithin_64 rfl (lv_at hl 0 rfl) ?_
            refine va_get (D := (dC, dI)) (ci := 8) (v := .ref (ad 9)) (C := RX6) (T := TX6) (N := 24) hx hb hts iW_X6 hown hK hP 0 rfl rfl 11 (by decide) (hts _ mF_RX6_35) (fun _ h9 => h9) rfl dX6_isWithin_65 ?_
            refine lv_iconst (v := 3) hx hb dX6_isWithin_68 (by decide) ?_
            obtain ⟨h8, hs⟩ := hs
            refine va_lald hx hb hK hP 9 1 rfl rfl h8 dX6_isWithin_69 ?_
            refine q_X6_isLength hx hb hml hown hts mM_RX6_81 ⟨Nat.le_of_ble_eq_true rfl, Nat.le_of_ble_eq_true rfl⟩ ⟨Nat.le_of_ble_eq_true rfl, Nat.le_of_ble_eq_true rfl⟩ hl.1 (Nat.le_of_ble_eq_true rfl) hS dX6_isWithin_70 hA (Va (3 : Int32).toNatClampNeg) (fun locs hS => ?_)
            refine lv_if_eq (tgt := 80) hx hb dX6_isWithin_73 (by decide) (fun c9 => ?_) (fun c9 => ?_)
            · have hs := hs.1 c9
              refine lv_iconst (v := 0) hx hb dX6_isWithin_80 (by decide) ?_
              rw [hQ9]
              have hf : f_X6_isWithin a0 Va = (0 : Int32) := by simp only [f_X6_isWithin, if_neg c1, if_neg c2, if_pos c3, if_neg c5, if_neg c7, if_pos c9]
              exact W.zret (v := (0 : Int32)) (ty := .boolean) hx hb hr (rfl) (fun t ht hW => ⟨⟨(0 : Int32), (), rfl, by rw [hf], by show va_P (dC, dI) vwCl _ t.heap; rw [ht]; exact hP⟩, hS.F ht⟩) hS.2.2 dX6_isWithin_81
            · have hs := hs.2 c9
              refine lv_iconst (v := 1) hx hb dX6_isWithin_76 (by decide) ?_
              refine lv_goto (tgt := 81) hx hb dX6_isWithin_77 (by decide) ?_
              rw [hQ9]
              have hf : f_X6_isWithin a0 Va = (1 : Int32) := by simp only [f_X6_isWithin, if_neg c1, if_neg c2, if_pos c3, if_neg c5, if_neg c7, if_neg c9]
              exact W.zret (v := (1 : Int32)) (ty := .boolean) hx hb hr (rfl) (fun t ht hW => ⟨⟨(1 : Int32), (), rfl, by rw [hf], by show va_P (dC, dI) vwCl _ t.heap; rw [ht]; exact hP⟩, hS.F ht⟩) hS.2.2 dX6_isWithin_81
    · have hs := hs.1 c2
      refine lv_aload_n hx hb dX6_isWithin_25 rfl (lv_at hl 0 rfl) ?_
      refine va_get (D := (dC, dI)) (ci := 8) (v := .ref (ad 9)) (C := RX6) (T := TX6) (N := 24) hx hb hts iW_X6 hown hK hP 0 rfl rfl 11 (by decide) (hts _ mF_RX6_35) (fun _ h9 => h9) rfl dX6_isWithin_26 ?_
      refine lv_iconst (v := 0) hx hb dX6_isWithin_29 (by decide) ?_
      obtain ⟨h10, hs⟩ := hs
      refine va_lald hx hb hK hP 9 1 rfl rfl h10 dX6_isWithin_30 ?_
      refine q_X6_isLength hx hb hml hown hts mM_RX6_81 ⟨Nat.le_of_ble_eq_true rfl, Nat.le_of_ble_eq_true rfl⟩ ⟨Nat.le_of_ble_eq_true rfl, Nat.le_of_ble_eq_true rfl⟩ hl.1 (Nat.le_of_ble_eq_true rfl) hS dX6_isWithin_31 hA (Va (0 : Int32).toNatClampNeg) (fun locs hS => ?_)
      rw [hQ9]
      have hf : f_X6_isWithin a0 Va = (f_X6_isLength (Va (0 : Int32).toNatClampNeg)) := by simp only [f_X6_isWithin, if_neg c1, if_pos c2]
      exact W.zret (v := (f_X6_isLength (Va (0 : Int32).toNatClampNeg))) (ty := .boolean) hx hb hr (nb_in _ _ _) (fun t ht hW => ⟨⟨(f_X6_isLength (Va (0 : Int32).toNatClampNeg)), (), rfl, by rw [hf], by show va_P (dC, dI) vwCl _ t.heap; rw [ht]; exact hP⟩, hS.F ht⟩) hS.2.2 dX6_isWithin_34
  · have hs := hs.1 c1
    refine lv_aload_n hx hb dX6_isWithin_4 rfl (lv_at hl 0 rfl) ?_
    refine va_get (D := (dC, dI)) (ci := 8) (v := .ref (ad 9)) (C := RX6) (T := TX6) (N := 24) hx hb hts iW_X6 hown hK hP 0 rfl rfl 11 (by decide) (hts _ mF_RX6_35) (fun _ h9 => h9) rfl dX6_isWithin_5 ?_
    refine lv_iconst (v := 0) hx hb dX6_isWithin_8 (by decide) ?_
    obtain ⟨h11, hs⟩ := hs
    refine va_lald hx hb hK hP 9 1 rfl rfl h11 dX6_isWithin_9 ?_
    refine lv_ldc2 hx hb hown (hts _ mK_RX6_87) dX6_isWithin_10 ?_
    refine lv_ldc2 hx hb hown (hts _ mK_RX6_89) dX6_isWithin_13 ?_
    refine q_X6_in hx hb hml hown hts mM_RX6_67 ⟨Nat.le_of_ble_eq_true rfl, Nat.le_of_ble_eq_true rfl⟩ ⟨Nat.le_of_ble_eq_true rfl, Nat.le_of_ble_eq_true rfl⟩ hl.1 (Nat.le_of_ble_eq_true rfl) hS dX6_isWithin_16 hA (Va (0 : Int32).toNatClampNeg) (-2147483647 : Int64) (2147483647 : Int64) (fun locs hS => ?_)
    rw [hQ9]
    have hf : f_X6_isWithin a0 Va = (f_X6_in (Va (0 : Int32).toNatClampNeg) (-2147483647 : Int64) (2147483647 : Int64)) := by simp only [f_X6_isWithin, if_pos c1]
    exact W.zret (v := (f_X6_in (Va (0 : Int32).toNatClampNeg) (-2147483647 : Int64) (2147483647 : Int64))) (ty := .boolean) hx hb hr (nb_in _ _ _) (fun t ht hW => ⟨⟨(f_X6_in (Va (0 : Int32).toNatClampNeg) (-2147483647 : Int64) (2147483647 : Int64)), (), rfl, by rw [hf], by show va_P (dC, dI) vwCl _ t.heap; rw [ht]; exact hP⟩, hS.F ht⟩) hS.2.2 dX6_isWithin_19
theorem q_X6_isWithin {p : Program} {l : Launch} {e : Env} {R : Room} {s : State} {m : MethodId} {args : Array Value} {below : List Frame} {meth : Method} {c : Code} {H : Heap} {locs : List Loc} {cells slots : Nat} {Q : State → Prop} {pc : Nat} {ls : Array Slot} {rest : List Value} {cc : ByteArray} {nL idx : Nat} {own : String} {A0 : Nat → Prop} {dC : Nat → ClassId} {dI : Nat → Nat → Nat} {cI cJ : ClassId} {ad : Nat → Nat} {Th : Int32} {Ce : Nat → Int64} {Le : Nat → Int32} {De : Int32} {Ke : Int32} {Kc : Nat → Int64} {Ko : Nat → Int32} {Kl : Nat → Int32} {Kd : Nat → Int32} {Ug : Nat → Int64} {Ur : Nat → Int64} {Va : Nat → Int64} {To : Int32} {Tt : Nat → Int32} {Td : Nat → Int32} {Go : Int32} {Gg : Nat → Int32} {Ga : Nat → Int32} {Be : Int32} {Bt : Nat → Int32} {Si : Int32} {Te : Nat → Int32} {Bz : Int32} {Bk : Nat → Int32} (hx : p.tables.exec = Jvm.exec) (hb : c.code = cc) (hml : c.maxLocals = nL) (hown : s.vm.findClass own = some m.cls) (hts : ∀ w ∈ bigW, w.before args s = true) (hlk : Cond.methodLink own idx yX6_isWithin ∈ bigW) (hR : 3 ≤ R.frames ∧ 67 ≤ R.locals) (hf : cells + 0 ≤ R.cells ∧ slots + 0 ≤ R.slots) (hz : ls.size = nL) (hw : (rest.map fun v => v.category).sum ≤ 8) (hS : va_S A0 s.heap H locs) (hd : decode cc pc = .ok (.invokevirtual idx, 3)) (hA : ∀ q, fA 17 ad H.size q → A0 q) (hi : fI 17 ad) (hK : va_K (dC, dI) vwCl [(cI, .int), (cJ, .long)] s) (hP : va_P (dC, dI) vwCl (wM ad cI cJ Th Ce Le De Ke Kc Ko Kl Kd Ug Ur Va To Tt Td Go Gg Ga Be Bt Si Te Bz Bk) H) (a0 : Int32) (hs : S_X6_isWithin a0 Va)  (u : Int32) (hu : u = f_X6_isWithin a0 Va) (k : ∀ (H1 : Heap) (locs1 : List Loc), va_P (dC, dI) vwCl (wM ad cI cJ Th Ce Le De Ke Kc Ko Kl Kd Ug Ur Va To Tt Td Go Gg Ga Be Bt Si Te Bz Bk) H1 → va_S A0 s.heap H1 locs1 → W p l e R s m args below meth c H1 locs1 (cells + 0) (slots + 0) Q (F0 m (pc + 3) ls (.int u :: rest))) : W p l e R s m args below meth c H locs cells slots Q (F0 m pc ls (.int a0 :: .ref (ad 0) :: rest)) := by
  subst hu
  exact va_calli (va_runV (As := [.int a0]) (rest := rest) ⟨hx, hb, hml, hown, hts⟩ (c_X6_isWithin l dC dI cI cJ ad hi H.size Th Ce Le De Ke Kc Ko Kl Kd Ug Ur Va To Tt Td Go Gg Ga Be Bt Si Te Bz Bk a0 hs) (kV 1 hts hlk mI_X6_isWithin mN_RX6 mY_X6_isWithin mV_X6_isWithin rfl rfl (by decide +kernel) hR) ⟨fun a U g mk q => ⟨q.1, q.2.1, q.2.2.1, va_K.moved (u := U) (U := U.calling g mk a) (Vm.Alike.refl U.vm) q.2.2.2⟩, va_recv hK hP (ci := 8) (q0 := 0) rfl rfl, fun U hU hW => ⟨rfl, by rw [hU], by rw [hU]; exact hP, va_K.moved hW.alike hK⟩⟩ rfl rfl hz rfl (lv_room hw) hd hf) hS (fun q _ h => hA q h) (fun q h => hA q h) (fun r u t H1 locs1 ht hvm hw9 hB hz1 hk1 hS1 => by
    subst hw9
    exact k H1 locs1 (by rw [← ht]; exact hB) hS1)

def f_X6_isFull (a0 : Int32) (a1 : Int32) (Le : Nat → Int32) (De : Int32) (Ke : Int32) : Int32 := (if a1 = 0 then (if De ≤ (Le a0.toNatClampNeg) then (0 : Int32) else (if Ke = (200 : Int32) then (1 : Int32) else (0 : Int32))) else (0 : Int32))
def S_X6_isFull (a0 : Int32) (a1 : Int32) (Le : Nat → Int32) (De : Int32) (Ke : Int32) : Prop := (a1 = 0 → ((vp_in a0 160) ∧ ((De ≤ (Le a0.toNatClampNeg) → (True)) ∧ (¬ De ≤ (Le a0.toNatClampNeg) → ((Ke = (200 : Int32) → (True)) ∧ (¬ Ke = (200 : Int32) → (True))))))) ∧ (¬ a1 = 0 → (True))
set_option maxHeartbeats 4000000 in
set_option maxRecDepth 100000 in
theorem c_X6_isFull (l : Launch) (dC : Nat → ClassId) (dI : Nat → Nat → Nat) (cI cJ : ClassId) (ad : Nat → Nat) (hi : fI 17 ad) (sz : Nat) (Th : Int32) (Ce : Nat → Int64) (Le : Nat → Int32) (De : Int32) (Ke : Int32) (Kc : Nat → Int64) (Ko : Nat → Int32) (Kl : Nat → Int32) (Kd : Nat → Int32) (Ug : Nat → Int64) (Ur : Nat → Int64) (Va : Nat → Int64) (To : Int32) (Tt : Nat → Int32) (Td : Nat → Int32) (Go : Int32) (Gg : Nat → Int32) (Ga : Nat → Int32) (Be : Int32) (Bt : Nat → Int32) (Si : Int32) (Te : Nat → Int32) (Bz : Int32) (Bk : Nat → Int32) (a0 : Int32) (a1 : Int32) (hs : S_X6_isFull a0 a1 Le De Ke) : Met l yX6_isFull (mW yX6_isFull cX6_isFull 3 (some .boolean)) { frames := 0, cells := 0, slots := 0, locals := 0 } (va_Pc [.ref (ad 0), .int a0, .int a1] (fun U => U.heap.size = sz ∧ va_P (dC, dI) vwCl (wM ad cI cJ Th Ce Le De Ke Kc Ko Kl Kd Ug Ur Va To Tt Td Go Gg Ga Be Bt Si Te Bz Bk) U.heap ∧ va_K (dC, dI) vwCl [(cI, .int), (cJ, .long)] U)) (va_Qi (fun (r : Int32) (_ : Unit) => r = f_X6_isFull a0 a1 Le De Ke) (fun _ t => va_P (dC, dI) vwCl (wM ad cI cJ Th Ce Le De Ke Kc Ko Kl Kd Ug Ur Va To Tt Td Go Gg Ga Be Bt Si Te Bz Bk) t.heap) (fA 17 ad sz)) 0 0 (fA 17 ad sz) := by
  refine Met.ofW (cc := cX6_isFull) (maxL := 3) (ret := (some .boolean)) (by decide) rfl ?_
  intro p e s m args below meth c s₁ B hml hv
  obtain ⟨rfl, hsz, hP, hK⟩ := hv
  have hx := B.exec
  have hb := B.bytes
  have hr := B.returns
  have hts := mW_hts (atoms_spec (ws := (mW yX6_isFull cX6_isFull 3 (some .boolean))) B.pre)
  have hown : s.vm.findClass RX6 = some m.cls := findClass_of_methodNamed B.named
  have hlocks := B.notSynchronized
  subst hsz
  have hA : ∀ (n : Nat) (q : Nat), s.heap.size ≤ n → n ≤ q → fA 17 ad s.heap.size q := fun n q h1 h2 => Or.inr (Nat.le_trans h1 h2)
  have hS : va_S (fA 17 ad s.heap.size) s.heap s.heap [] := va_S.rf
  have hA : ∀ q, s.heap.size ≤ q → (fA 17 ad s.heap.size) q := fun q h => Or.inr h
  unfold S_X6_isFull at hs
  have hl := lv_entry ([.ref (ad 0), .int a0, .int a1]) (n := 3) (Nat.le_of_ble_eq_true rfl)
  rw [lg_entry_eq]
  generalize (lg_sl ([.ref (ad 0), .int a0, .int a1]) ++ List.replicate (3 - (lg_sl ([.ref (ad 0), .int a0, .int a1])).length) Slot.unset).toArray = ls at hl ⊢
  have hl : lv_has ls 3 [(0, .ref (ad 0)), (1, .int a0), (2, .int a1)] := hl
  refine W_gen (fun Q9 hQ9 => ?_)
  refine lv_iload_n hx hb dX6_isFull_0 rfl (lv_at hl 2 rfl) ?_
  refine lv_if_ne (tgt := 31) hx hb dX6_isFull_1 (by decide) (fun c1 => ?_) (fun c1 => ?_)
  · have hs := hs.2 c1
    refine lv_iconst (v := 0) hx hb dX6_isFull_31 (by decide) ?_
    rw [hQ9]
    have hf : f_X6_isFull a0 a1 Le De Ke = (0 : Int32) := by simp only [f_X6_isFull, if_neg c1]
    exact W.zret (v := (0 : Int32)) (ty := .boolean) hx hb hr (rfl) (fun t ht hW => ⟨⟨(0 : Int32), (), rfl, by rw [hf], by show va_P (dC, dI) vwCl _ t.heap; rw [ht]; exact hP⟩, hS.F ht⟩) hS.2.2 dX6_isFull_32
  · have hs := hs.1 c1
    refine lv_aload_n hx hb dX6_isFull_4 rfl (lv_at hl 0 rfl) ?_
    refine va_get (D := (dC, dI)) (ci := 8) (v := .ref (ad 2)) (C := RX6) (T := TX6) (N := 24) hx hb hts iW_X6 hown hK hP 0 rfl rfl 2 (by decide) (hts _ mF_RX6_13) (fun _ h9 => h9) rfl dX6_isFull_5 ?_
    refine lv_iload_n hx hb dX6_isFull_8 rfl (lv_at hl 1 rfl) ?_
    obtain ⟨h2, hs⟩ := hs
    refine va_iald hx hb hK hP 2 0 rfl rfl h2 dX6_isFull_9 ?_
    refine lv_aload_n hx hb dX6_isFull_10 rfl (lv_at hl 0 rfl) ?_
    refine va_get (D := (dC, dI)) (ci := 8) (v := .int De) (C := RX6) (T := TX6) (N := 24) hx hb hts iW_X6 hown hK hP 0 rfl rfl 3 (by decide) (hts _ mF_RX6_91) (fun _ h9 => h9) rfl dX6_isFull_11 ?_
    refine lv_icmp_ge (tgt := 31) hx hb dX6_isFull_14 (by decide) (fun c3 => ?_) (fun c3 => ?_)
    · have hs := hs.1 c3
      refine lv_iconst (v := 0) hx hb dX6_isFull_31 (by decide) ?_
      rw [hQ9]
      have hf : f_X6_isFull a0 a1 Le De Ke = (0 : Int32) := by simp only [f_X6_isFull, if_pos c1, if_pos c3]
      exact W.zret (v := (0 : Int32)) (ty := .boolean) hx hb hr (rfl) (fun t ht hW => ⟨⟨(0 : Int32), (), rfl, by rw [hf], by show va_P (dC, dI) vwCl _ t.heap; rw [ht]; exact hP⟩, hS.F ht⟩) hS.2.2 dX6_isFull_32
    · have hs := hs.2 c3
      refine lv_aload_n hx hb dX6_isFull_17 rfl (lv_at hl 0 rfl) ?_
      refine va_get (D := (dC, dI)) (ci := 8) (v := .int Ke) (C := RX6) (T := TX6) (N := 24) hx hb hts iW_X6 hown hK hP 0 rfl rfl 4 (by decide) (hts _ mF_RX6_94) (fun _ h9 => h9) rfl dX6_isFull_18 ?_
      refine lv_sipush (v := 200) hx hb dX6_isFull_21 (by decide) ?_
      refine lv_icmp_ne (tgt := 31) hx hb dX6_isFull_24 (by decide) (fun c4 => ?_) (fun c4 => ?_)
      · have hs := hs.2 c4
        refine lv_iconst (v := 0) hx hb dX6_isFull_31 (by decide) ?_
        rw [hQ9]
        have hf : f_X6_isFull a0 a1 Le De Ke = (0 : Int32) := by simp only [f_X6_isFull, if_pos c1, if_neg c3, if_neg c4]
        exact W.zret (v := (0 : Int32)) (ty := .boolean) hx hb hr (rfl) (fun t ht hW => ⟨⟨(0 : Int32), (), rfl, by rw [hf], by show va_P (dC, dI) vwCl _ t.heap; rw [ht]; exact hP⟩, hS.F ht⟩) hS.2.2 dX6_isFull_32
      · have hs := hs.1 c4
        refine lv_iconst (v := 1) hx hb dX6_isFull_27 (by decide) ?_
        refine lv_goto (tgt := 32) hx hb dX6_isFull_28 (by decide) ?_
        rw [hQ9]
        have hf : f_X6_isFull a0 a1 Le De Ke = (1 : Int32) := by simp only [f_X6_isFull, if_pos c1, if_neg c3, if_pos c4]
        exact W.zret (v := (1 : Int32)) (ty := .boolean) hx hb hr (rfl) (fun t ht hW => ⟨⟨(1 : Int32), (), rfl, by rw [hf], by show va_P (dC, dI) vwCl _ t.heap; rw [ht]; exact hP⟩, hS.F ht⟩) hS.2.2 dX6_isFull_32
theorem q_X6_isFull {p : Program} {l : Launch} {e : Env} {R : Room} {s : State} {m : MethodId} {args : Array Value} {below : List Frame} {meth : Method} {c : Code} {H : Heap} {locs : List Loc} {cells slots : Nat} {Q : State → Prop} {pc : Nat} {ls : Array Slot} {rest : List Value} {cc : ByteArray} {nL idx : Nat} {own : String} {A0 : Nat → Prop} {dC : Nat → ClassId} {dI : Nat → Nat → Nat} {cI cJ : ClassId} {ad : Nat → Nat} {Th : Int32} {Ce : Nat → Int64} {Le : Nat → Int32} {De : Int32} {Ke : Int32} {Kc : Nat → Int64} {Ko : Nat → Int32} {Kl : Nat → Int32} {Kd : Nat → Int32} {Ug : Nat → Int64} {Ur : Nat → Int64} {Va : Nat → Int64} {To : Int32} {Tt : Nat → Int32} {Td : Nat → Int32} {Go : Int32} {Gg : Nat → Int32} {Ga : Nat → Int32} {Be : Int32} {Bt : Nat → Int32} {Si : Int32} {Te : Nat → Int32} {Bz : Int32} {Bk : Nat → Int32} (hx : p.tables.exec = Jvm.exec) (hb : c.code = cc) (hml : c.maxLocals = nL) (hown : s.vm.findClass own = some m.cls) (hts : ∀ w ∈ bigW, w.before args s = true) (hlk : Cond.methodLink own idx yX6_isFull ∈ bigW) (hR : 1 ≤ R.frames ∧ 22 ≤ R.locals) (hf : cells + 0 ≤ R.cells ∧ slots + 0 ≤ R.slots) (hz : ls.size = nL) (hw : (rest.map fun v => v.category).sum ≤ 8) (hS : va_S A0 s.heap H locs) (hd : decode cc pc = .ok (.invokevirtual idx, 3)) (hA : ∀ q, fA 17 ad H.size q → A0 q) (hi : fI 17 ad) (hK : va_K (dC, dI) vwCl [(cI, .int), (cJ, .long)] s) (hP : va_P (dC, dI) vwCl (wM ad cI cJ Th Ce Le De Ke Kc Ko Kl Kd Ug Ur Va To Tt Td Go Gg Ga Be Bt Si Te Bz Bk) H) (a0 : Int32) (a1 : Int32) (hs : S_X6_isFull a0 a1 Le De Ke)  (u : Int32) (hu : u = f_X6_isFull a0 a1 Le De Ke) (k : ∀ (H1 : Heap) (locs1 : List Loc), va_P (dC, dI) vwCl (wM ad cI cJ Th Ce Le De Ke Kc Ko Kl Kd Ug Ur Va To Tt Td Go Gg Ga Be Bt Si Te Bz Bk) H1 → va_S A0 s.heap H1 locs1 → W p l e R s m args below meth c H1 locs1 (cells + 0) (slots + 0) Q (F0 m (pc + 3) ls (.int u :: rest))) : W p l e R s m args below meth c H locs cells slots Q (F0 m pc ls (.int a1 :: .int a0 :: .ref (ad 0) :: rest)) := by
  subst hu
  exact va_calli (va_runV (As := [.int a0, .int a1]) (rest := rest) ⟨hx, hb, hml, hown, hts⟩ (c_X6_isFull l dC dI cI cJ ad hi H.size Th Ce Le De Ke Kc Ko Kl Kd Ug Ur Va To Tt Td Go Gg Ga Be Bt Si Te Bz Bk a0 a1 hs) (kV 2 hts hlk mI_X6_isFull mN_RX6 mY_X6_isFull mV_X6_isFull rfl rfl (by decide +kernel) hR) ⟨fun a U g mk q => ⟨q.1, q.2.1, q.2.2.1, va_K.moved (u := U) (U := U.calling g mk a) (Vm.Alike.refl U.vm) q.2.2.2⟩, va_recv hK hP (ci := 8) (q0 := 0) rfl rfl, fun U hU hW => ⟨rfl, by rw [hU], by rw [hU]; exact hP, va_K.moved hW.alike hK⟩⟩ rfl rfl hz rfl (lv_room hw) hd hf) hS (fun q _ h => hA q h) (fun q h => hA q h) (fun r u t H1 locs1 ht hvm hw9 hB hz1 hk1 hS1 => by
    subst hw9
    exact k H1 locs1 (by rw [← ht]; exact hB) hS1)

def L_X6_put_106 : Nat → Int32 → (Nat → Int64) → Int32 → (Nat → Int64) → Int32 × (Nat → Int64)
  | 0, x3, Ce, x1, Va => (x3, Ce)
  | n + 1, x3, Ce, x1, Va => (if (21 : Int32) ≤ x3 then (x3, Ce) else L_X6_put_106 n (x3 + 1) (vp_updL Ce (((21 : Int32) * x1) + x3).toNatClampNeg (Va x3.toNatClampNeg)) x1 Va)
def SL_X6_put_106 : Nat → Int32 → (Nat → Int64) → Int32 → (Nat → Int64) → Prop
  | 0, _, _, _, _ => False
  | n + 1, x3, Ce, x1, Va => ((21 : Int32) ≤ x3 → (True)) ∧ (¬ (21 : Int32) ≤ x3 → ((vp_in x3 21) ∧ ((vp_in (((21 : Int32) * x1) + x3) 3360) ∧ (SL_X6_put_106 n (x3 + 1) (vp_updL Ce (((21 : Int32) * x1) + x3).toNatClampNeg (Va x3.toNatClampNeg)) x1 Va))))
def L_X6_put_19 : Nat → Int32 → (Nat → Int64) → Int32 → (Nat → Int64) → Int32 → Int32 × (Nat → Int64)
  | 0, x3, Kc, x1, Ce, Ke => (x3, Kc)
  | n + 1, x3, Kc, x1, Ce, Ke => (if (21 : Int32) ≤ x3 then (x3, Kc) else L_X6_put_19 n (x3 + 1) (vp_updL Kc (((21 : Int32) * Ke) + x3).toNatClampNeg (Ce (((21 : Int32) * x1) + x3).toNatClampNeg)) x1 Ce Ke)
def SL_X6_put_19 : Nat → Int32 → (Nat → Int64) → Int32 → (Nat → Int64) → Int32 → Prop
  | 0, _, _, _, _, _ => False
  | n + 1, x3, Kc, x1, Ce, Ke => ((21 : Int32) ≤ x3 → (True)) ∧ (¬ (21 : Int32) ≤ x3 → ((vp_in (((21 : Int32) * x1) + x3) 3360) ∧ ((vp_in (((21 : Int32) * Ke) + x3) 4200) ∧ (SL_X6_put_19 n (x3 + 1) (vp_updL Kc (((21 : Int32) * Ke) + x3).toNatClampNeg (Ce (((21 : Int32) * x1) + x3).toNatClampNeg)) x1 Ce Ke))))
def f_X6_put (a0 : Int32) (a1 : Int32) (Ce : Nat → Int64) (Le : Nat → Int32) (De : Int32) (Ke : Int32) (Kc : Nat → Int64) (Ko : Nat → Int32) (Kl : Nat → Int32) (Kd : Nat → Int32) (Va : Nat → Int64) : (Nat → Int64) × (Nat → Int32) × Int32 × (Nat → Int64) × (Nat → Int32) × (Nat → Int32) × (Nat → Int32) := (if a1 = 0 then (if De ≤ (Le a0.toNatClampNeg) then (let u15 := L_X6_put_106 22 (0 : Int32) Ce a0 Va; (u15.2, (upd Le a0.toNatClampNeg De), Ke, Kc, Ko, Kl, Kd)) else (let u26 := L_X6_put_19 22 (0 : Int32) Kc a0 Ce Ke; (let u33 := L_X6_put_106 22 (0 : Int32) Ce a0 Va; (u33.2, (upd Le a0.toNatClampNeg De), (Ke + (1 : Int32)), u26.2, (upd Ko Ke.toNatClampNeg a0), (upd Kl Ke.toNatClampNeg (Le a0.toNatClampNeg)), (upd Kd Ke.toNatClampNeg De))))) else (let u2 := L_X6_put_106 22 (0 : Int32) Ce a0 Va; (u2.2, (upd Le a0.toNatClampNeg (0 : Int32)), Ke, Kc, Ko, Kl, Kd)))
def S_X6_put (a0 : Int32) (a1 : Int32) (Ce : Nat → Int64) (Le : Nat → Int32) (De : Int32) (Ke : Int32) (Kc : Nat → Int64) (Ko : Nat → Int32) (Kl : Nat → Int32) (Kd : Nat → Int32) (Va : Nat → Int64) : Prop := (a1 = 0 → ((vp_in a0 160) ∧ ((De ≤ (Le a0.toNatClampNeg) → ((SL_X6_put_106 22 (0 : Int32) Ce a0 Va) ∧ (∀ u15, u15 = L_X6_put_106 22 (0 : Int32) Ce a0 Va → ((vp_in a0 160) ∧ (True))))) ∧ (¬ De ≤ (Le a0.toNatClampNeg) → ((SL_X6_put_19 22 (0 : Int32) Kc a0 Ce Ke) ∧ (∀ u26, u26 = L_X6_put_19 22 (0 : Int32) Kc a0 Ce Ke → ((vp_in Ke 200) ∧ ((vp_in a0 160) ∧ ((vp_in Ke 200) ∧ ((vp_in Ke 200) ∧ ((SL_X6_put_106 22 (0 : Int32) Ce a0 Va) ∧ (∀ u33, u33 = L_X6_put_106 22 (0 : Int32) Ce a0 Va → ((vp_in a0 160) ∧ (True)))))))))))))) ∧ (¬ a1 = 0 → ((SL_X6_put_106 22 (0 : Int32) Ce a0 Va) ∧ (∀ u2, u2 = L_X6_put_106 22 (0 : Int32) Ce a0 Va → ((vp_in a0 160) ∧ (True)))))
set_option maxHeartbeats 4000000 in
set_option maxRecDepth 100000 in
theorem c_X6_put (l : Launch) (dC : Nat → ClassId) (dI : Nat → Nat → Nat) (cI cJ : ClassId) (ad : Nat → Nat) (hi : fI 17 ad) (sz : Nat) (Th : Int32) (Ce : Nat → Int64) (Le : Nat → Int32) (De : Int32) (Ke : Int32) (Kc : Nat → Int64) (Ko : Nat → Int32) (Kl : Nat → Int32) (Kd : Nat → Int32) (Ug : Nat → Int64) (Ur : Nat → Int64) (Va : Nat → Int64) (To : Int32) (Tt : Nat → Int32) (Td : Nat → Int32) (Go : Int32) (Gg : Nat → Int32) (Ga : Nat → Int32) (Be : Int32) (Bt : Nat → Int32) (Si : Int32) (Te : Nat → Int32) (Bz : Int32) (Bk : Nat → Int32) (a0 : Int32) (a1 : Int32) (hs : S_X6_put a0 a1 Ce Le De Ke Kc Ko Kl Kd Va) : Met l yX6_put (mW yX6_put cX6_put 4 none) { frames := 0, cells := 0, slots := 0, locals := 0 } (va_Pc [.ref (ad 0), .int a0, .int a1] (fun U => U.heap.size = sz ∧ va_P (dC, dI) vwCl (wM ad cI cJ Th Ce Le De Ke Kc Ko Kl Kd Ug Ur Va To Tt Td Go Gg Ga Be Bt Si Te Bz Bk) U.heap ∧ va_K (dC, dI) vwCl [(cI, .int), (cJ, .long)] U)) (va_Qv (fun (_ : Unit) => True) (fun _ t => va_P (dC, dI) vwCl (wM ad cI cJ Th ((f_X6_put a0 a1 Ce Le De Ke Kc Ko Kl Kd Va).1) ((f_X6_put a0 a1 Ce Le De Ke Kc Ko Kl Kd Va).2.1) De ((f_X6_put a0 a1 Ce Le De Ke Kc Ko Kl Kd Va).2.2.1) ((f_X6_put a0 a1 Ce Le De Ke Kc Ko Kl Kd Va).2.2.2.1) ((f_X6_put a0 a1 Ce Le De Ke Kc Ko Kl Kd Va).2.2.2.2.1) ((f_X6_put a0 a1 Ce Le De Ke Kc Ko Kl Kd Va).2.2.2.2.2.1) ((f_X6_put a0 a1 Ce Le De Ke Kc Ko Kl Kd Va).2.2.2.2.2.2) Ug Ur Va To Tt Td Go Gg Ga Be Bt Si Te Bz Bk) t.heap) (fA 17 ad sz)) 0 0 (fA 17 ad sz) := by
  refine Met.ofW (cc := cX6_put) (maxL := 4) (ret := none) (by decide) rfl ?_
  intro p e s m args below meth c s₁ B hml hv
  obtain ⟨rfl, hsz, hP, hK⟩ := hv
  have hx := B.exec
  have hb := B.bytes
  have hr := B.returns
  have hts := mW_hts (atoms_spec (ws := (mW yX6_put cX6_put 4 none)) B.pre)
  have hown : s.vm.findClass RX6 = some m.cls := findClass_of_methodNamed B.named
  have hlocks := B.notSynchronized
  subst hsz
  have hA : ∀ (n : Nat) (q : Nat), s.heap.size ≤ n → n ≤ q → fA 17 ad s.heap.size q := fun n q h1 h2 => Or.inr (Nat.le_trans h1 h2)
  have hS : va_S (fA 17 ad s.heap.size) s.heap s.heap [] := va_S.rf
  have hA : ∀ q, s.heap.size ≤ q → (fA 17 ad s.heap.size) q := fun q h => Or.inr h
  unfold S_X6_put at hs
  have hl := lv_entry ([.ref (ad 0), .int a0, .int a1]) (n := 4) (Nat.le_of_ble_eq_true rfl)
  rw [lg_entry_eq]
  generalize (lg_sl ([.ref (ad 0), .int a0, .int a1]) ++ List.replicate (4 - (lg_sl ([.ref (ad 0), .int a0, .int a1])).length) Slot.unset).toArray = ls at hl ⊢
  have hl : lv_has ls 4 [(0, .ref (ad 0)), (1, .int a0), (2, .int a1)] := hl
  refine W_gen (fun Q9 hQ9 => ?_)
  refine lv_iload_n hx hb dX6_put_0 rfl (lv_at hl 2 rfl) ?_
  refine lv_if_ne (tgt := 104) hx hb dX6_put_1 (by decide) (fun c1 => ?_) (fun c1 => ?_)
  · have hs := hs.2 c1
    refine lv_iconst (v := 0) hx hb dX6_put_104 (by decide) ?_
    refine lv_istore_n (lv' := [(3, .int (0 : Int32)), (0, .ref (ad 0)), (1, .int a0), (2, .int a1)]) hx hb dX6_put_105 rfl hl (by decide) rfl (fun ls hl => ?_)
    obtain ⟨h3, hs⟩ := hs
    obtain ⟨u2, hu2⟩ : ∃ z, z = L_X6_put_106 22 (0 : Int32) Ce a0 Va := ⟨_, rfl⟩
    have hs := hs u2 hu2
    have hex4 : ∀ (H : Heap) (locs : List Loc) (ls : Array Slot), va_P (dC, dI) vwCl (wM ad cI cJ Th u2.2 Le De Ke Kc Ko Kl Kd Ug Ur Va To Tt Td Go Gg Ga Be Bt Si Te Bz Bk) H → va_S (fA 17 ad s.heap.size) s.heap H locs → lv_has ls 4 [(3, .int u2.1), (0, .ref (ad 0)), (1, .int a0), (2, .int a1)] → W p l e (headSpec (mW yX6_put cX6_put 4 none) { frames := 0, cells := 0, slots := 0, locals := 0 }).room s m ([.ref (ad 0), .int a0, .int a1] : List Value).toArray below meth c H locs 0 0 Q9 (F0 m 135 ls []) := by
      intro H locs ls hP hS hl
      refine lv_aload_n hx hb dX6_put_135 rfl (lv_at hl 1 rfl) ?_
      refine va_get (D := (dC, dI)) (ci := 8) (v := .ref (ad 2)) (C := RX6) (T := TX6) (N := 24) hx hb hts iW_X6 hown hK hP 0 rfl rfl 2 (by decide) (hts _ mF_RX6_13) (fun _ h9 => h9) rfl dX6_put_136 ?_
      refine lv_iload_n hx hb dX6_put_139 rfl (lv_at hl 2 rfl) ?_
      refine lv_iload_n hx hb dX6_put_140 rfl (lv_at hl 3 rfl) ?_
      refine lv_if_eq (tgt := 148) hx hb dX6_put_141 (by decide) (fun c5 => ?_) (fun c5 => ?_)
      · exact absurd c5 c1
      · refine lv_iconst (v := 0) hx hb dX6_put_144 (by decide) ?_
        refine lv_goto (tgt := 152) hx hb dX6_put_145 (by decide) ?_
        obtain ⟨h6, hs⟩ := hs
        refine va_iast hx hb hK hP (fA_D hi rfl) hS 2 0 rfl rfl h6 dX6_put_152 (fun H locs hP _ hS => ?_)
        have hP : va_P (dC, dI) vwCl (wM ad cI cJ Th u2.2 (upd Le a0.toNatClampNeg (0 : Int32)) De Ke Kc Ko Kl Kd Ug Ur Va To Tt Td Go Gg Ga Be Bt Si Te Bz Bk) H := hP
        rw [hQ9]
        have hf : f_X6_put a0 a1 Ce Le De Ke Kc Ko Kl Kd Va = (u2.2, (upd Le a0.toNatClampNeg (0 : Int32)), Ke, Kc, Ko, Kl, Kd) := by simp only [f_X6_put, if_neg c1, ← hu2]
        exact W.vret hx hb hr (fun t ht hW => ⟨⟨(), rfl, True.intro, by rw [hf]; show va_P (dC, dI) vwCl _ t.heap; rw [ht]; exact hP⟩, hS.F ht⟩) hS.2.2 dX6_put_153
    have hlp7 : ∀ (n : Nat) (x3v : Int32) (Cev : Nat → Int64) (H : Heap) (locs : List Loc) (ls : Array Slot), SL_X6_put_106 n x3v Cev a0 Va → u2 = L_X6_put_106 n x3v Cev a0 Va → va_P (dC, dI) vwCl (wM ad cI cJ Th Cev Le De Ke Kc Ko Kl Kd Ug Ur Va To Tt Td Go Gg Ga Be Bt Si Te Bz Bk) H → va_S (fA 17 ad s.heap.size) s.heap H locs → lv_has ls 4 [(3, .int x3v), (0, .ref (ad 0)), (1, .int a0), (2, .int a1)] → W p l e (headSpec (mW yX6_put cX6_put 4 none) { frames := 0, cells := 0, slots := 0, locals := 0 }).room s m ([.ref (ad 0), .int a0, .int a1] : List Value).toArray below meth c H locs 0 0 Q9 (F0 m 106 ls []) := by
      intro n
      induction n with
      | zero => intro x3v Cev H locs ls hs; rw [SL_X6_put_106] at hs; exact hs.elim
      | succ n ih =>
        intro x3v Cev H locs ls hs hq8 hP hS hl
        rw [SL_X6_put_106] at hs
        refine lv_iload_n hx hb dX6_put_106 rfl (lv_at hl 0 rfl) ?_
        refine lv_bipush (v := 21) hx hb dX6_put_107 (by decide) ?_
        refine lv_icmp_ge (tgt := 135) hx hb dX6_put_109 (by decide) (fun c9 => ?_) (fun c9 => ?_)
        · have hs := hs.1 c9
          have he10 : u2 = (x3v, Cev) := by rw [hq8, L_X6_put_106]; simp only [if_pos c9, ↓reduceIte]
          exact hex4 _ _ _ (by first | exact hP | (rw [he10]; exact hP)) hS (by first | exact lv_sub hl [0, 1, 2, 3] rfl | (rw [he10]; exact lv_sub hl [0, 1, 2, 3] rfl))
        · have hs := hs.2 c9
          refine lv_aload_n hx hb dX6_put_112 rfl (lv_at hl 1 rfl) ?_
          refine va_get (D := (dC, dI)) (ci := 8) (v := .ref (ad 1)) (C := RX6) (T := TX6) (N := 24) hx hb hts iW_X6 hown hK hP 0 rfl rfl 1 (by decide) (hts _ mF_RX6_7) (fun _ h9 => h9) rfl dX6_put_113 ?_
          refine lv_bipush (v := 21) hx hb dX6_put_116 (by decide) ?_
          refine lv_iload_n hx hb dX6_put_118 rfl (lv_at hl 2 rfl) ?_
          refine lv_imul hx hb dX6_put_119 ?_
          refine lv_iload_n hx hb dX6_put_120 rfl (lv_at hl 0 rfl) ?_
          refine lv_iadd hx hb dX6_put_121 ?_
          refine lv_aload_n hx hb dX6_put_122 rfl (lv_at hl 1 rfl) ?_
          refine va_get (D := (dC, dI)) (ci := 8) (v := .ref (ad 9)) (C := RX6) (T := TX6) (N := 24) hx hb hts iW_X6 hown hK hP 0 rfl rfl 11 (by decide) (hts _ mF_RX6_35) (fun _ h9 => h9) rfl dX6_put_123 ?_
          refine lv_iload_n hx hb dX6_put_126 rfl (lv_at hl 0 rfl) ?_
          obtain ⟨h11, hs⟩ := hs
          refine va_lald hx hb hK hP 9 1 rfl rfl h11 dX6_put_127 ?_
          obtain ⟨h12, hs⟩ := hs
          refine va_last hx hb hK hP (fA_D hi rfl) hS 1 1 rfl rfl h12 dX6_put_128 (fun H locs hP _ hS => ?_)
          have hP : va_P (dC, dI) vwCl (wM ad cI cJ Th (vp_updL Cev (((21 : Int32) * a0) + x3v).toNatClampNeg (Va x3v.toNatClampNeg)) Le De Ke Kc Ko Kl Kd Ug Ur Va To Tt Td Go Gg Ga Be Bt Si Te Bz Bk) H := hP
          refine lv_iinc (v := (x3v + 1)) (lv' := [(3, .int (x3v + 1)), (0, .ref (ad 0)), (1, .int a0), (2, .int a1)]) hx hb dX6_put_129 hl (k := 0) rfl rfl (by decide) rfl (fun ls hl => ?_)
          refine lv_goto (tgt := 106) hx hb dX6_put_132 (by decide) ?_
          exact ih (x3v + 1) (vp_updL Cev (((21 : Int32) * a0) + x3v).toNatClampNeg (Va x3v.toNatClampNeg)) _ _ _ hs (by rw [hq8, L_X6_put_106]; simp only [if_neg c9, ↓reduceIte]) hP hS (lv_sub hl [0, 1, 2, 3] rfl)
    exact hlp7 22 (0 : Int32) Ce _ _ _ h3 hu2 hP hS (lv_sub hl [0, 1, 2, 3] rfl)
  · have hs := hs.1 c1
    refine lv_aload_n hx hb dX6_put_4 rfl (lv_at hl 0 rfl) ?_
    refine va_get (D := (dC, dI)) (ci := 8) (v := .ref (ad 2)) (C := RX6) (T := TX6) (N := 24) hx hb hts iW_X6 hown hK hP 0 rfl rfl 2 (by decide) (hts _ mF_RX6_13) (fun _ h9 => h9) rfl dX6_put_5 ?_
    refine lv_iload_n hx hb dX6_put_8 rfl (lv_at hl 1 rfl) ?_
    obtain ⟨h13, hs⟩ := hs
    refine va_iald hx hb hK hP 2 0 rfl rfl h13 dX6_put_9 ?_
    refine lv_aload_n hx hb dX6_put_10 rfl (lv_at hl 0 rfl) ?_
    refine va_get (D := (dC, dI)) (ci := 8) (v := .int De) (C := RX6) (T := TX6) (N := 24) hx hb hts iW_X6 hown hK hP 0 rfl rfl 3 (by decide) (hts _ mF_RX6_91) (fun _ h9 => h9) rfl dX6_put_11 ?_
    refine lv_icmp_ge (tgt := 104) hx hb dX6_put_14 (by decide) (fun c14 => ?_) (fun c14 => ?_)
    · have hs := hs.1 c14
      refine lv_iconst (v := 0) hx hb dX6_put_104 (by decide) ?_
      refine lv_istore_n (lv' := [(3, .int (0 : Int32)), (0, .ref (ad 0)), (1, .int a0), (2, .int a1)]) hx hb dX6_put_105 rfl hl (by decide) rfl (fun ls hl => ?_)
      obtain ⟨h16, hs⟩ := hs
      obtain ⟨u15, hu15⟩ : ∃ z, z = L_X6_put_106 22 (0 : Int32) Ce a0 Va := ⟨_, rfl⟩
      have hs := hs u15 hu15
      have hex17 : ∀ (H : Heap) (locs : List Loc) (ls : Array Slot), va_P (dC, dI) vwCl (wM ad cI cJ Th u15.2 Le De Ke Kc Ko Kl Kd Ug Ur Va To Tt Td Go Gg Ga Be Bt Si Te Bz Bk) H → va_S (fA 17 ad s.heap.size) s.heap H locs → lv_has ls 4 [(3, .int u15.1), (0, .ref (ad 0)), (1, .int a0), (2, .int a1)] → W p l e (headSpec (mW yX6_put cX6_put 4 none) { frames := 0, cells := 0, slots := 0, locals := 0 }).room s m ([.ref (ad 0), .int a0, .int a1] : List Value).toArray below meth c H locs 0 0 Q9 (F0 m 135 ls []) := by
        intro H locs ls hP hS hl
        refine lv_aload_n hx hb dX6_put_135 rfl (lv_at hl 1 rfl) ?_
        refine va_get (D := (dC, dI)) (ci := 8) (v := .ref (ad 2)) (C := RX6) (T := TX6) (N := 24) hx hb hts iW_X6 hown hK hP 0 rfl rfl 2 (by decide) (hts _ mF_RX6_13) (fun _ h9 => h9) rfl dX6_put_136 ?_
        refine lv_iload_n hx hb dX6_put_139 rfl (lv_at hl 2 rfl) ?_
        refine lv_iload_n hx hb dX6_put_140 rfl (lv_at hl 3 rfl) ?_
        refine lv_if_eq (tgt := 148) hx hb dX6_put_141 (by decide) (fun c18 => ?_) (fun c18 => ?_)
        · refine lv_aload_n hx hb dX6_put_148 rfl (lv_at hl 1 rfl) ?_
          refine va_get (D := (dC, dI)) (ci := 8) (v := .int De) (C := RX6) (T := TX6) (N := 24) hx hb hts iW_X6 hown hK hP 0 rfl rfl 3 (by decide) (hts _ mF_RX6_91) (fun _ h9 => h9) rfl dX6_put_149 ?_
          obtain ⟨h19, hs⟩ := hs
          refine va_iast hx hb hK hP (fA_D hi rfl) hS 2 0 rfl rfl h19 dX6_put_152 (fun H locs hP _ hS => ?_)
          have hP : va_P (dC, dI) vwCl (wM ad cI cJ Th u15.2 (upd Le a0.toNatClampNeg De) De Ke Kc Ko Kl Kd Ug Ur Va To Tt Td Go Gg Ga Be Bt Si Te Bz Bk) H := hP
          rw [hQ9]
          have hf : f_X6_put a0 a1 Ce Le De Ke Kc Ko Kl Kd Va = (u15.2, (upd Le a0.toNatClampNeg De), Ke, Kc, Ko, Kl, Kd) := by simp only [f_X6_put, if_pos c1, if_pos c14, ← hu15]
          exact W.vret hx hb hr (fun t ht hW => ⟨⟨(), rfl, True.intro, by rw [hf]; show va_P (dC, dI) vwCl _ t.heap; rw [ht]; exact hP⟩, hS.F ht⟩) hS.2.2 dX6_put_153
        · exact absurd c1 c18
      have hlp20 : ∀ (n : Nat) (x3v : Int32) (Cev : Nat → Int64) (H : Heap) (locs : List Loc) (ls : Array Slot), SL_X6_put_106 n x3v Cev a0 Va → u15 = L_X6_put_106 n x3v Cev a0 Va → va_P (dC, dI) vwCl (wM ad cI cJ Th Cev Le De Ke Kc Ko Kl Kd Ug Ur Va To Tt Td Go Gg Ga Be Bt Si Te Bz Bk) H → va_S (fA 17 ad s.heap.size) s.heap H locs → lv_has ls 4 [(3, .int x3v), (0, .ref (ad 0)), (1, .int a0), (2, .int a1)] → W p l e (headSpec (mW yX6_put cX6_put 4 none) { frames := 0, cells := 0, slots := 0, locals := 0 }).room s m ([.ref (ad 0), .int a0, .int a1] : List Value).toArray below meth c H locs 0 0 Q9 (F0 m 106 ls []) := by
        intro n
        induction n with
        | zero => intro x3v Cev H locs ls hs; rw [SL_X6_put_106] at hs; exact hs.elim
        | succ n ih =>
          intro x3v Cev H locs ls hs hq21 hP hS hl
          rw [SL_X6_put_106] at hs
          refine lv_iload_n hx hb dX6_put_106 rfl (lv_at hl 0 rfl) ?_
          refine lv_bipush (v := 21) hx hb dX6_put_107 (by decide) ?_
          refine lv_icmp_ge (tgt := 135) hx hb dX6_put_109 (by decide) (fun c22 => ?_) (fun c22 => ?_)
          · have hs := hs.1 c22
            have he23 : u15 = (x3v, Cev) := by rw [hq21, L_X6_put_106]; simp only [if_pos c22, ↓reduceIte]
            exact hex17 _ _ _ (by first | exact hP | (rw [he23]; exact hP)) hS (by first | exact lv_sub hl [0, 1, 2, 3] rfl | (rw [he23]; exact lv_sub hl [0, 1, 2, 3] rfl))
          · have hs := hs.2 c22
            refine lv_aload_n hx hb dX6_put_112 rfl (lv_at hl 1 rfl) ?_
            refine va_get (D := (dC, dI)) (ci := 8) (v := .ref (ad 1)) (C := RX6) (T := TX6) (N := 24) hx hb hts iW_X6 hown hK hP 0 rfl rfl 1 (by decide) (hts _ mF_RX6_7) (fun _ h9 => h9) rfl dX6_put_113 ?_
            refine lv_bipush (v := 21) hx hb dX6_put_116 (by decide) ?_
            refine lv_iload_n hx hb dX6_put_118 rfl (lv_at hl 2 rfl) ?_
            refine lv_imul hx hb dX6_put_119 ?_
            refine lv_iload_n hx hb dX6_put_120 rfl (lv_at hl 0 rfl) ?_
            refine lv_iadd hx hb dX6_put_121 ?_
            refine lv_aload_n hx hb dX6_put_122 rfl (lv_at hl 1 rfl) ?_
            refine va_get (D := (dC, dI)) (ci := 8) (v := .ref (ad 9)) (C := RX6) (T := TX6) (N := 24) hx hb hts iW_X6 hown hK hP 0 rfl rfl 11 (by decide) (hts _ mF_RX6_35) (fun _ h9 => h9) rfl dX6_put_123 ?_
            refine lv_iload_n hx hb dX6_put_126 rfl (lv_at hl 0 rfl) ?_
            obtain ⟨h24, hs⟩ := hs
            refine va_lald hx hb hK hP 9 1 rfl rfl h24 dX6_put_127 ?_
            obtain ⟨h25, hs⟩ := hs
            refine va_last hx hb hK hP (fA_D hi rfl) hS 1 1 rfl rfl h25 dX6_put_128 (fun H locs hP _ hS => ?_)
            have hP : va_P (dC, dI) vwCl (wM ad cI cJ Th (vp_updL Cev (((21 : Int32) * a0) + x3v).toNatClampNeg (Va x3v.toNatClampNeg)) Le De Ke Kc Ko Kl Kd Ug Ur Va To Tt Td Go Gg Ga Be Bt Si Te Bz Bk) H := hP
            refine lv_iinc (v := (x3v + 1)) (lv' := [(3, .int (x3v + 1)), (0, .ref (ad 0)), (1, .int a0), (2, .int a1)]) hx hb dX6_put_129 hl (k := 0) rfl rfl (by decide) rfl (fun ls hl => ?_)
            refine lv_goto (tgt := 106) hx hb dX6_put_132 (by decide) ?_
            exact ih (x3v + 1) (vp_updL Cev (((21 : Int32) * a0) + x3v).toNatClampNeg (Va x3v.toNatClampNeg)) _ _ _ hs (by rw [hq21, L_X6_put_106]; simp only [if_neg c22, ↓reduceIte]) hP hS (lv_sub hl [0, 1, 2, 3] rfl)
      exact hlp20 22 (0 : Int32) Ce _ _ _ h16 hu15 hP hS (lv_sub hl [0, 1, 2, 3] rfl)
    · have hs := hs.2 c14
      refine lv_iconst (v := 0) hx hb dX6_put_17 (by decide) ?_
      refine lv_istore_n (lv' := [(3, .int (0 : Int32)), (0, .ref (ad 0)), (1, .int a0), (2, .int a1)]) hx hb dX6_put_18 rfl hl (by decide) rfl (fun ls hl => ?_)
      obtain ⟨h27, hs⟩ := hs
      obtain ⟨u26, hu26⟩ : ∃ z, z = L_X6_put_19 22 (0 : Int32) Kc a0 Ce Ke := ⟨_, rfl⟩
      have hs := hs u26 hu26
      have hex28 : ∀ (H : Heap) (locs : List Loc) (ls : Array Slot), va_P (dC, dI) vwCl (wM ad cI cJ Th Ce Le De Ke u26.2 Ko Kl Kd Ug Ur Va To Tt Td Go Gg Ga Be Bt Si Te Bz Bk) H → va_S (fA 17 ad s.heap.size) s.heap H locs → lv_has ls 4 [(3, .int u26.1), (0, .ref (ad 0)), (1, .int a0), (2, .int a1)] → W p l e (headSpec (mW yX6_put cX6_put 4 none) { frames := 0, cells := 0, slots := 0, locals := 0 }).room s m ([.ref (ad 0), .int a0, .int a1] : List Value).toArray below meth c H locs 0 0 Q9 (F0 m 56 ls []) := by
        intro H locs ls hP hS hl
        refine lv_aload_n hx hb dX6_put_56 rfl (lv_at hl 1 rfl) ?_
        refine va_get (D := (dC, dI)) (ci := 8) (v := .ref (ad 4)) (C := RX6) (T := TX6) (N := 24) hx hb hts iW_X6 hown hK hP 0 rfl rfl 6 (by decide) (hts _ mF_RX6_20) (fun _ h9 => h9) rfl dX6_put_57 ?_
        refine lv_aload_n hx hb dX6_put_60 rfl (lv_at hl 1 rfl) ?_
        refine va_get (D := (dC, dI)) (ci := 8) (v := .int Ke) (C := RX6) (T := TX6) (N := 24) hx hb hts iW_X6 hown hK hP 0 rfl rfl 4 (by decide) (hts _ mF_RX6_94) (fun _ h9 => h9) rfl dX6_put_61 ?_
        refine lv_iload_n hx hb dX6_put_64 rfl (lv_at hl 2 rfl) ?_
        obtain ⟨h29, hs⟩ := hs
        refine va_iast hx hb hK hP (fA_D hi rfl) hS 4 0 rfl rfl h29 dX6_put_65 (fun H locs hP _ hS => ?_)
        have hP : va_P (dC, dI) vwCl (wM ad cI cJ Th Ce Le De Ke u26.2 (upd Ko Ke.toNatClampNeg a0) Kl Kd Ug Ur Va To Tt Td Go Gg Ga Be Bt Si Te Bz Bk) H := hP
        refine lv_aload_n hx hb dX6_put_66 rfl (lv_at hl 1 rfl) ?_
        refine va_get (D := (dC, dI)) (ci := 8) (v := .ref (ad 5)) (C := RX6) (T := TX6) (N := 24) hx hb hts iW_X6 hown hK hP 0 rfl rfl 7 (by decide) (hts _ mF_RX6_23) (fun _ h9 => h9) rfl dX6_put_67 ?_
        refine lv_aload_n hx hb dX6_put_70 rfl (lv_at hl 1 rfl) ?_
        refine va_get (D := (dC, dI)) (ci := 8) (v := .int Ke) (C := RX6) (T := TX6) (N := 24) hx hb hts iW_X6 hown hK hP 0 rfl rfl 4 (by decide) (hts _ mF_RX6_94) (fun _ h9 => h9) rfl dX6_put_71 ?_
        refine lv_aload_n hx hb dX6_put_74 rfl (lv_at hl 1 rfl) ?_
        refine va_get (D := (dC, dI)) (ci := 8) (v := .ref (ad 2)) (C := RX6) (T := TX6) (N := 24) hx hb hts iW_X6 hown hK hP 0 rfl rfl 2 (by decide) (hts _ mF_RX6_13) (fun _ h9 => h9) rfl dX6_put_75 ?_
        refine lv_iload_n hx hb dX6_put_78 rfl (lv_at hl 2 rfl) ?_
        obtain ⟨h30, hs⟩ := hs
        refine va_iald hx hb hK hP 2 0 rfl rfl h30 dX6_put_79 ?_
        obtain ⟨h31, hs⟩ := hs
        refine va_iast hx hb hK hP (fA_D hi rfl) hS 5 0 rfl rfl h31 dX6_put_80 (fun H locs hP _ hS => ?_)
        have hP : va_P (dC, dI) vwCl (wM ad cI cJ Th Ce Le De Ke u26.2 (upd Ko Ke.toNatClampNeg a0) (upd Kl Ke.toNatClampNeg (Le a0.toNatClampNeg)) Kd Ug Ur Va To Tt Td Go Gg Ga Be Bt Si Te Bz Bk) H := hP
        refine lv_aload_n hx hb dX6_put_81 rfl (lv_at hl 1 rfl) ?_
        refine va_get (D := (dC, dI)) (ci := 8) (v := .ref (ad 6)) (C := RX6) (T := TX6) (N := 24) hx hb hts iW_X6 hown hK hP 0 rfl rfl 8 (by decide) (hts _ mF_RX6_26) (fun _ h9 => h9) rfl dX6_put_82 ?_
        refine lv_aload_n hx hb dX6_put_85 rfl (lv_at hl 1 rfl) ?_
        refine va_get (D := (dC, dI)) (ci := 8) (v := .int Ke) (C := RX6) (T := TX6) (N := 24) hx hb hts iW_X6 hown hK hP 0 rfl rfl 4 (by decide) (hts _ mF_RX6_94) (fun _ h9 => h9) rfl dX6_put_86 ?_
        refine lv_aload_n hx hb dX6_put_89 rfl (lv_at hl 1 rfl) ?_
        refine va_get (D := (dC, dI)) (ci := 8) (v := .int De) (C := RX6) (T := TX6) (N := 24) hx hb hts iW_X6 hown hK hP 0 rfl rfl 3 (by decide) (hts _ mF_RX6_91) (fun _ h9 => h9) rfl dX6_put_90 ?_
        obtain ⟨h32, hs⟩ := hs
        refine va_iast hx hb hK hP (fA_D hi rfl) hS 6 0 rfl rfl h32 dX6_put_93 (fun H locs hP _ hS => ?_)
        have hP : va_P (dC, dI) vwCl (wM ad cI cJ Th Ce Le De Ke u26.2 (upd Ko Ke.toNatClampNeg a0) (upd Kl Ke.toNatClampNeg (Le a0.toNatClampNeg)) (upd Kd Ke.toNatClampNeg De) Ug Ur Va To Tt Td Go Gg Ga Be Bt Si Te Bz Bk) H := hP
        refine lv_aload_n hx hb dX6_put_94 rfl (lv_at hl 1 rfl) ?_
        refine lv_dup hx hb dX6_put_95 rfl ?_
        refine va_get (D := (dC, dI)) (ci := 8) (v := .int Ke) (C := RX6) (T := TX6) (N := 24) hx hb hts iW_X6 hown hK hP 0 rfl rfl 4 (by decide) (hts _ mF_RX6_94) (fun _ h9 => h9) rfl dX6_put_96 ?_
        refine lv_iconst (v := 1) hx hb dX6_put_99 (by decide) ?_
        refine lv_iadd hx hb dX6_put_100 ?_
        refine va_put (D := (dC, dI)) (ci := 8) (v := .int (Ke + (1 : Int32))) (ty := .int) (C := RX6) (T := TX6) (N := 24) hx hb hts iW_X6 tyX6 tyX6_ok nmX6 hown hK hP (fA_D hi rfl) hS 0 rfl rfl 4 (by decide) (hts _ mF_RX6_94) (fun _ h9 => h9) rfl (by decide +kernel) rfl rfl (Nat.le_of_ble_eq_true rfl) dX6_put_101 (fun H locs hP _ hS => ?_)
        have hP : va_P (dC, dI) vwCl (wM ad cI cJ Th Ce Le De (Ke + (1 : Int32)) u26.2 (upd Ko Ke.toNatClampNeg a0) (upd Kl Ke.toNatClampNeg (Le a0.toNatClampNeg)) (upd Kd Ke.toNatClampNeg De) Ug Ur Va To Tt Td Go Gg Ga Be Bt Si Te Bz Bk) H := hP
        refine lv_iconst (v := 0) hx hb dX6_put_104 (by decide) ?_
        refine lv_istore_n (lv' := [(3, .int (0 : Int32)), (0, .ref (ad 0)), (1, .int a0), (2, .int a1)]) hx hb dX6_put_105 rfl hl (by decide) rfl (fun ls hl => ?_)
        obtain ⟨h34, hs⟩ := hs
        obtain ⟨u33, hu33⟩ : ∃ z, z = L_X6_put_106 22 (0 : Int32) Ce a0 Va := ⟨_, rfl⟩
        have hs := hs u33 hu33
        have hex35 : ∀ (H : Heap) (locs : List Loc) (ls : Array Slot), va_P (dC, dI) vwCl (wM ad cI cJ Th u33.2 Le De (Ke + (1 : Int32)) u26.2 (upd Ko Ke.toNatClampNeg a0) (upd Kl Ke.toNatClampNeg (Le a0.toNatClampNeg)) (upd Kd Ke.toNatClampNeg De) Ug Ur Va To Tt Td Go Gg Ga Be Bt Si Te Bz Bk) H → va_S (fA 17 ad s.heap.size) s.heap H locs → lv_has ls 4 [(3, .int u33.1), (0, .ref (ad 0)), (1, .int a0), (2, .int a1)] → W p l e (headSpec (mW yX6_put cX6_put 4 none) { frames := 0, cells := 0, slots := 0, locals := 0 }).room s m ([.ref (ad 0), .int a0, .int a1] : List Value).toArray below meth c H locs 0 0 Q9 (F0 m 135 ls []) := by
          intro H locs ls hP hS hl
          refine lv_aload_n hx hb dX6_put_135 rfl (lv_at hl 1 rfl) ?_
          refine va_get (D := (dC, dI)) (ci := 8) (v := .ref (ad 2)) (C := RX6) (T := TX6) (N := 24) hx hb hts iW_X6 hown hK hP 0 rfl rfl 2 (by decide) (hts _ mF_RX6_13) (fun _ h9 => h9) rfl dX6_put_136 ?_
          refine lv_iload_n hx hb dX6_put_139 rfl (lv_at hl 2 rfl) ?_
          refine lv_iload_n hx hb dX6_put_140 rfl (lv_at hl 3 rfl) ?_
          refine lv_if_eq (tgt := 148) hx hb dX6_put_141 (by decide) (fun c36 => ?_) (fun c36 => ?_)
          · refine lv_aload_n hx hb dX6_put_148 rfl (lv_at hl 1 rfl) ?_
            refine va_get (D := (dC, dI)) (ci := 8) (v := .int De) (C := RX6) (T := TX6) (N := 24) hx hb hts iW_X6 hown hK hP 0 rfl rfl 3 (by decide) (hts _ mF_RX6_91) (fun _ h9 => h9) rfl dX6_put_149 ?_
            obtain ⟨h37, hs⟩ := hs
            refine va_iast hx hb hK hP (fA_D hi rfl) hS 2 0 rfl rfl h37 dX6_put_152 (fun H locs hP _ hS => ?_)
            have hP : va_P (dC, dI) vwCl (wM ad cI cJ Th u33.2 (upd Le a0.toNatClampNeg De) De (Ke + (1 : Int32)) u26.2 (upd Ko Ke.toNatClampNeg a0) (upd Kl Ke.toNatClampNeg (Le a0.toNatClampNeg)) (upd Kd Ke.toNatClampNeg De) Ug Ur Va To Tt Td Go Gg Ga Be Bt Si Te Bz Bk) H := hP
            rw [hQ9]
            have hf : f_X6_put a0 a1 Ce Le De Ke Kc Ko Kl Kd Va = (u33.2, (upd Le a0.toNatClampNeg De), (Ke + (1 : Int32)), u26.2, (upd Ko Ke.toNatClampNeg a0), (upd Kl Ke.toNatClampNeg (Le a0.toNatClampNeg)), (upd Kd Ke.toNatClampNeg De)) := by simp only [f_X6_put, if_pos c1, if_neg c14, ← hu26, ← hu33]
            exact W.vret hx hb hr (fun t ht hW => ⟨⟨(), rfl, True.intro, by rw [hf]; show va_P (dC, dI) vwCl _ t.heap; rw [ht]; exact hP⟩, hS.F ht⟩) hS.2.2 dX6_put_153
          · exact absurd c1 c36
        have hlp38 : ∀ (n : Nat) (x3v : Int32) (Cev : Nat → Int64) (H : Heap) (locs : List Loc) (ls : Array Slot), SL_X6_put_106 n x3v Cev a0 Va → u33 = L_X6_put_106 n x3v Cev a0 Va → va_P (dC, dI) vwCl (wM ad cI cJ Th Cev Le De (Ke + (1 : Int32)) u26.2 (upd Ko Ke.toNatClampNeg a0) (upd Kl Ke.toNatClampNeg (Le a0.toNatClampNeg)) (upd Kd Ke.toNatClampNeg De) Ug Ur Va To Tt Td Go Gg Ga Be Bt Si Te Bz Bk) H → va_S (fA 17 ad s.heap.size) s.heap H locs → lv_has ls 4 [(3, .int x3v), (0, .ref (ad 0)), (1, .int a0), (2, .int a1)] → W p l e (headSpec (mW yX6_put cX6_put 4 none) { frames := 0, cells := 0, slots := 0, locals := 0 }).room s m ([.ref (ad 0), .int a0, .int a1] : List Value).toArray below meth c H locs 0 0 Q9 (F0 m 106 ls []) := by
          intro n
          induction n with
          | zero => intro x3v Cev H locs ls hs; rw [SL_X6_put_106] at hs; exact hs.elim
          | succ n ih =>
            intro x3v Cev H locs ls hs hq39 hP hS hl
            rw [SL_X6_put_106] at hs
            refine lv_iload_n hx hb dX6_put_106 rfl (lv_at hl 0 rfl) ?_
            refine lv_bipush (v := 21) hx hb dX6_put_107 (by decide) ?_
            refine lv_icmp_ge (tgt := 135) hx hb dX6_put_109 (by decide) (fun c40 => ?_) (fun c40 => ?_)
            · have hs := hs.1 c40
              have he41 : u33 = (x3v, Cev) := by rw [hq39, L_X6_put_106]; simp only [if_pos c40, ↓reduceIte]
              exact hex35 _ _ _ (by first | exact hP | (rw [he41]; exact hP)) hS (by first | exact lv_sub hl [0, 1, 2, 3] rfl | (rw [he41]; exact lv_sub hl [0, 1, 2, 3] rfl))
            · have hs := hs.2 c40
              refine lv_aload_n hx hb dX6_put_112 rfl (lv_at hl 1 rfl) ?_
              refine va_get (D := (dC, dI)) (ci := 8) (v := .ref (ad 1)) (C := RX6) (T := TX6) (N := 24) hx hb hts iW_X6 hown hK hP 0 rfl rfl 1 (by decide) (hts _ mF_RX6_7) (fun _ h9 => h9) rfl dX6_put_113 ?_
              refine lv_bipush (v := 21) hx hb dX6_put_116 (by decide) ?_
              refine lv_iload_n hx hb dX6_put_118 rfl (lv_at hl 2 rfl) ?_
              refine lv_imul hx hb dX6_put_119 ?_
              refine lv_iload_n hx hb dX6_put_120 rfl (lv_at hl 0 rfl) ?_
              refine lv_iadd hx hb dX6_put_121 ?_
              refine lv_aload_n hx hb dX6_put_122 rfl (lv_at hl 1 rfl) ?_
              refine va_get (D := (dC, dI)) (ci := 8) (v := .ref (ad 9)) (C := RX6) (T := TX6) (N := 24) hx hb hts iW_X6 hown hK hP 0 rfl rfl 11 (by decide) (hts _ mF_RX6_35) (fun _ h9 => h9) rfl dX6_put_123 ?_
              refine lv_iload_n hx hb dX6_put_126 rfl (lv_at hl 0 rfl) ?_
              obtain ⟨h42, hs⟩ := hs
              refine va_lald hx hb hK hP 9 1 rfl rfl h42 dX6_put_127 ?_
              obtain ⟨h43, hs⟩ := hs
              refine va_last hx hb hK hP (fA_D hi rfl) hS 1 1 rfl rfl h43 dX6_put_128 (fun H locs hP _ hS => ?_)
              have hP : va_P (dC, dI) vwCl (wM ad cI cJ Th (vp_updL Cev (((21 : Int32) * a0) + x3v).toNatClampNeg (Va x3v.toNatClampNeg)) Le De (Ke + (1 : Int32)) u26.2 (upd Ko Ke.toNatClampNeg a0) (upd Kl Ke.toNatClampNeg (Le a0.toNatClampNeg)) (upd Kd Ke.toNatClampNeg De) Ug Ur Va To Tt Td Go Gg Ga Be Bt Si Te Bz Bk) H := hP
              refine lv_iinc (v := (x3v + 1)) (lv' := [(3, .int (x3v + 1)), (0, .ref (ad 0)), (1, .int a0), (2, .int a1)]) hx hb dX6_put_129 hl (k := 0) rfl rfl (by decide) rfl (fun ls hl => ?_)
              refine lv_goto (tgt := 106) hx hb dX6_put_132 (by decide) ?_
              exact ih (x3v + 1) (vp_updL Cev (((21 : Int32) * a0) + x3v).toNatClampNeg (Va x3v.toNatClampNeg)) _ _ _ hs (by rw [hq39, L_X6_put_106]; simp only [if_neg c40, ↓reduceIte]) hP hS (lv_sub hl [0, 1, 2, 3] rfl)
        exact hlp38 22 (0 : Int32) Ce _ _ _ h34 hu33 hP hS (lv_sub hl [0, 1, 2, 3] rfl)
      have hlp44 : ∀ (n : Nat) (x3v : Int32) (Kcv : Nat → Int64) (H : Heap) (locs : List Loc) (ls : Array Slot), SL_X6_put_19 n x3v Kcv a0 Ce Ke → u26 = L_X6_put_19 n x3v Kcv a0 Ce Ke → va_P (dC, dI) vwCl (wM ad cI cJ Th Ce Le De Ke Kcv Ko Kl Kd Ug Ur Va To Tt Td Go Gg Ga Be Bt Si Te Bz Bk) H → va_S (fA 17 ad s.heap.size) s.heap H locs → lv_has ls 4 [(3, .int x3v), (0, .ref (ad 0)), (1, .int a0), (2, .int a1)] → W p l e (headSpec (mW yX6_put cX6_put 4 none) { frames := 0, cells := 0, slots := 0, locals := 0 }).room s m ([.ref (ad 0), .int a0, .int a1] : List Value).toArray below meth c H locs 0 0 Q9 (F0 m 19 ls []) := by
        intro n
        induction n with
        | zero => intro x3v Kcv H locs ls hs; rw [SL_X6_put_19] at hs; exact hs.elim
        | succ n ih =>
          intro x3v Kcv H locs ls hs hq45 hP hS hl
          rw [SL_X6_put_19] at hs
          refine lv_iload_n hx hb dX6_put_19 rfl (lv_at hl 0 rfl) ?_
          refine lv_bipush (v := 21) hx hb dX6_put_20 (by decide) ?_
          refine lv_icmp_ge (tgt := 56) hx hb dX6_put_22 (by decide) (fun c46 => ?_) (fun c46 => ?_)
          · have hs := hs.1 c46
            have he47 : u26 = (x3v, Kcv) := by rw [hq45, L_X6_put_19]; simp only [if_pos c46, ↓reduceIte]
            exact hex28 _ _ _ (by first | exact hP | (rw [he47]; exact hP)) hS (by first | exact lv_sub hl [0, 1, 2, 3] rfl | (rw [he47]; exact lv_sub hl [0, 1, 2, 3] rfl))
          · have hs := hs.2 c46
            refine lv_aload_n hx hb dX6_put_25 rfl (lv_at hl 1 rfl) ?_
            refine va_get (D := (dC, dI)) (ci := 8) (v := .ref (ad 3)) (C := RX6) (T := TX6) (N := 24) hx hb hts iW_X6 hown hK hP 0 rfl rfl 5 (by decide) (hts _ mF_RX6_17) (fun _ h9 => h9) rfl dX6_put_26 ?_
            refine lv_bipush (v := 21) hx hb dX6_put_29 (by decide) ?_
            refine lv_aload_n hx hb dX6_put_31 rfl (lv_at hl 1 rfl) ?_
            refine va_get (D := (dC, dI)) (ci := 8) (v := .int Ke) (C := RX6) (T := TX6) (N := 24) hx hb hts iW_X6 hown hK hP 0 rfl rfl 4 (by decide) (hts _ mF_RX6_94) (fun _ h9 => h9) rfl dX6_put_32 ?_
            refine lv_imul hx hb dX6_put_35 ?_
            refine lv_iload_n hx hb dX6_put_36 rfl (lv_at hl 0 rfl) ?_
            refine lv_iadd hx hb dX6_put_37 ?_
            refine lv_aload_n hx hb dX6_put_38 rfl (lv_at hl 1 rfl) ?_
            refine va_get (D := (dC, dI)) (ci := 8) (v := .ref (ad 1)) (C := RX6) (T := TX6) (N := 24) hx hb hts iW_X6 hown hK hP 0 rfl rfl 1 (by decide) (hts _ mF_RX6_7) (fun _ h9 => h9) rfl dX6_put_39 ?_
            refine lv_bipush (v := 21) hx hb dX6_put_42 (by decide) ?_
            refine lv_iload_n hx hb dX6_put_44 rfl (lv_at hl 2 rfl) ?_
            refine lv_imul hx hb dX6_put_45 ?_
            refine lv_iload_n hx hb dX6_put_46 rfl (lv_at hl 0 rfl) ?_
            refine lv_iadd hx hb dX6_put_47 ?_
            obtain ⟨h48, hs⟩ := hs
            refine va_lald hx hb hK hP 1 1 rfl rfl h48 dX6_put_48 ?_
            obtain ⟨h49, hs⟩ := hs
            refine va_last hx hb hK hP (fA_D hi rfl) hS 3 1 rfl rfl h49 dX6_put_49 (fun H locs hP _ hS => ?_)
            have hP : va_P (dC, dI) vwCl (wM ad cI cJ Th Ce Le De Ke (vp_updL Kcv (((21 : Int32) * Ke) + x3v).toNatClampNeg (Ce (((21 : Int32) * a0) + x3v).toNatClampNeg)) Ko Kl Kd Ug Ur Va To Tt Td Go Gg Ga Be Bt Si Te Bz Bk) H := hP
            refine lv_iinc (v := (x3v + 1)) (lv' := [(3, .int (x3v + 1)), (0, .ref (ad 0)), (1, .int a0), (2, .int a1)]) hx hb dX6_put_50 hl (k := 0) rfl rfl (by decide) rfl (fun ls hl => ?_)
            refine lv_goto (tgt := 19) hx hb dX6_put_53 (by decide) ?_
            exact ih (x3v + 1) (vp_updL Kcv (((21 : Int32) * Ke) + x3v).toNatClampNeg (Ce (((21 : Int32) * a0) + x3v).toNatClampNeg)) _ _ _ hs (by rw [hq45, L_X6_put_19]; simp only [if_neg c46, ↓reduceIte]) hP hS (lv_sub hl [0, 1, 2, 3] rfl)
      exact hlp44 22 (0 : Int32) Kc _ _ _ h27 hu26 hP hS (lv_sub hl [0, 1, 2, 3] rfl)
theorem q_X6_put {p : Program} {l : Launch} {e : Env} {R : Room} {s : State} {m : MethodId} {args : Array Value} {below : List Frame} {meth : Method} {c : Code} {H : Heap} {locs : List Loc} {cells slots : Nat} {Q : State → Prop} {pc : Nat} {ls : Array Slot} {rest : List Value} {cc : ByteArray} {nL idx : Nat} {own : String} {A0 : Nat → Prop} {dC : Nat → ClassId} {dI : Nat → Nat → Nat} {cI cJ : ClassId} {ad : Nat → Nat} {Th : Int32} {Ce : Nat → Int64} {Le : Nat → Int32} {De : Int32} {Ke : Int32} {Kc : Nat → Int64} {Ko : Nat → Int32} {Kl : Nat → Int32} {Kd : Nat → Int32} {Ug : Nat → Int64} {Ur : Nat → Int64} {Va : Nat → Int64} {To : Int32} {Tt : Nat → Int32} {Td : Nat → Int32} {Go : Int32} {Gg : Nat → Int32} {Ga : Nat → Int32} {Be : Int32} {Bt : Nat → Int32} {Si : Int32} {Te : Nat → Int32} {Bz : Int32} {Bk : Nat → Int32} (hx : p.tables.exec = Jvm.exec) (hb : c.code = cc) (hml : c.maxLocals = nL) (hown : s.vm.findClass own = some m.cls) (hts : ∀ w ∈ bigW, w.before args s = true) (hlk : Cond.methodLink own idx yX6_put ∈ bigW) (hR : 1 ≤ R.frames ∧ 23 ≤ R.locals) (hf : cells + 0 ≤ R.cells ∧ slots + 0 ≤ R.slots) (hz : ls.size = nL) (hw : (rest.map fun v => v.category).sum ≤ 8) (hS : va_S A0 s.heap H locs) (hd : decode cc pc = .ok (.invokevirtual idx, 3)) (hA : ∀ q, fA 17 ad H.size q → A0 q) (hi : fI 17 ad) (hK : va_K (dC, dI) vwCl [(cI, .int), (cJ, .long)] s) (hP : va_P (dC, dI) vwCl (wM ad cI cJ Th Ce Le De Ke Kc Ko Kl Kd Ug Ur Va To Tt Td Go Gg Ga Be Bt Si Te Bz Bk) H) (a0 : Int32) (a1 : Int32) (hs : S_X6_put a0 a1 Ce Le De Ke Kc Ko Kl Kd Va)  (u : (Nat → Int64) × (Nat → Int32) × Int32 × (Nat → Int64) × (Nat → Int32) × (Nat → Int32) × (Nat → Int32)) (hu : u = f_X6_put a0 a1 Ce Le De Ke Kc Ko Kl Kd Va) (k : ∀ (H1 : Heap) (locs1 : List Loc), va_P (dC, dI) vwCl (wM ad cI cJ Th u.1 u.2.1 De u.2.2.1 u.2.2.2.1 u.2.2.2.2.1 u.2.2.2.2.2.1 u.2.2.2.2.2.2 Ug Ur Va To Tt Td Go Gg Ga Be Bt Si Te Bz Bk) H1 → va_S A0 s.heap H1 locs1 → W p l e R s m args below meth c H1 locs1 (cells + 0) (slots + 0) Q (F0 m (pc + 3) ls (rest))) : W p l e R s m args below meth c H locs cells slots Q (F0 m pc ls (.int a1 :: .int a0 :: .ref (ad 0) :: rest)) := by
  subst hu
  exact va_callv (va_runV (As := [.int a0, .int a1]) (rest := rest) ⟨hx, hb, hml, hown, hts⟩ (c_X6_put l dC dI cI cJ ad hi H.size Th Ce Le De Ke Kc Ko Kl Kd Ug Ur Va To Tt Td Go Gg Ga Be Bt Si Te Bz Bk a0 a1 hs) (kV 2 hts hlk mI_X6_put mN_RX6 mY_X6_put mV_X6_put rfl rfl (by decide +kernel) hR) ⟨fun a U g mk q => ⟨q.1, q.2.1, q.2.2.1, va_K.moved (u := U) (U := U.calling g mk a) (Vm.Alike.refl U.vm) q.2.2.2⟩, va_recv hK hP (ci := 8) (q0 := 0) rfl rfl, fun U hU hW => ⟨rfl, by rw [hU], by rw [hU]; exact hP, va_K.moved hW.alike hK⟩⟩ rfl rfl hz rfl (lv_room hw) hd hf) hS (fun q _ h => hA q h) (fun q h => hA q h) (fun u t H1 locs1 ht hvm hw9 hB hz1 hk1 hS1 => by
    skip
    exact k H1 locs1 (by rw [← ht]; exact hB) hS1)

def f_X6_finish (a0 : Int32) (a1 : Int32) (a2 : Int32) (a3 : Int32) (Th : Int32) (Ce : Nat → Int64) (Le : Nat → Int32) (De : Int32) (Ke : Int32) (Kc : Nat → Int64) (Ko : Nat → Int32) (Kl : Nat → Int32) (Kd : Nat → Int32) (Va : Nat → Int64) : Int32 × Int32 × (Nat → Int64) × (Nat → Int32) × Int32 × (Nat → Int64) × (Nat → Int32) × (Nat → Int32) × (Nat → Int32) := (let u2 := f_X6_isWithin a0 Va; (if u2 = 0 then ((0 : Int32), Th, Ce, Le, Ke, Kc, Ko, Kl, Kd) else (let u5 := f_X6_isFull (((32 : Int32) * a0) + a1) a2 Le De Ke; (if u5 = 0 then (let u9 := f_X6_put (((32 : Int32) * a0) + a1) a2 Ce Le De Ke Kc Ko Kl Kd Va; ((1 : Int32), (0 : Int32), u9.1, u9.2.1, u9.2.2.1, u9.2.2.2.1, u9.2.2.2.2.1, u9.2.2.2.2.2.1, u9.2.2.2.2.2.2)) else (if a3 ≤ 0 then (let u12 := f_X6_put (((32 : Int32) * a0) + a1) a2 Ce Le De Ke Kc Ko Kl Kd Va; ((1 : Int32), a3, u12.1, u12.2.1, u12.2.2.1, u12.2.2.2.1, u12.2.2.2.2.1, u12.2.2.2.2.2.1, u12.2.2.2.2.2.2)) else ((0 : Int32), a3, Ce, Le, Ke, Kc, Ko, Kl, Kd))))))
def S_X6_finish (a0 : Int32) (a1 : Int32) (a2 : Int32) (a3 : Int32) (Th : Int32) (Ce : Nat → Int64) (Le : Nat → Int32) (De : Int32) (Ke : Int32) (Kc : Nat → Int64) (Ko : Nat → Int32) (Kl : Nat → Int32) (Kd : Nat → Int32) (Va : Nat → Int64) : Prop := (S_X6_isWithin a0 Va) ∧ (∀ u2, u2 = f_X6_isWithin a0 Va → ((u2 = 0 → (True)) ∧ (¬ u2 = 0 → ((S_X6_isFull (((32 : Int32) * a0) + a1) a2 Le De Ke) ∧ (∀ u5, u5 = f_X6_isFull (((32 : Int32) * a0) + a1) a2 Le De Ke → ((u5 = 0 → ((S_X6_put (((32 : Int32) * a0) + a1) a2 Ce Le De Ke Kc Ko Kl Kd Va) ∧ (∀ u9, u9 = f_X6_put (((32 : Int32) * a0) + a1) a2 Ce Le De Ke Kc Ko Kl Kd Va → (True)))) ∧ (¬ u5 = 0 → ((a3 ≤ 0 → ((S_X6_put (((32 : Int32) * a0) + a1) a2 Ce Le De Ke Kc Ko Kl Kd Va) ∧ (∀ u12, u12 = f_X6_put (((32 : Int32) * a0) + a1) a2 Ce Le De Ke Kc Ko Kl Kd Va → (True)))) ∧ (¬ a3 ≤ 0 → (True))))))))))
set_option maxHeartbeats 4000000 in
set_option maxRecDepth 100000 in
theorem c_X6_finish (l : Launch) (dC : Nat → ClassId) (dI : Nat → Nat → Nat) (cI cJ : ClassId) (ad : Nat → Nat) (hi : fI 17 ad) (sz : Nat) (Th : Int32) (Ce : Nat → Int64) (Le : Nat → Int32) (De : Int32) (Ke : Int32) (Kc : Nat → Int64) (Ko : Nat → Int32) (Kl : Nat → Int32) (Kd : Nat → Int32) (Ug : Nat → Int64) (Ur : Nat → Int64) (Va : Nat → Int64) (To : Int32) (Tt : Nat → Int32) (Td : Nat → Int32) (Go : Int32) (Gg : Nat → Int32) (Ga : Nat → Int32) (Be : Int32) (Bt : Nat → Int32) (Si : Int32) (Te : Nat → Int32) (Bz : Int32) (Bk : Nat → Int32) (a0 : Int32) (a1 : Int32) (a2 : Int32) (a3 : Int32) (hs : S_X6_finish a0 a1 a2 a3 Th Ce Le De Ke Kc Ko Kl Kd Va) : Met l yX6_finish (mW yX6_finish cX6_finish 6 (some .int)) { frames := 3, cells := 0, slots := 0, locals := 67 } (va_Pc [.ref (ad 0), .int a0, .int a1, .int a2, .int a3] (fun U => U.heap.size = sz ∧ va_P (dC, dI) vwCl (wM ad cI cJ Th Ce Le De Ke Kc Ko Kl Kd Ug Ur Va To Tt Td Go Gg Ga Be Bt Si Te Bz Bk) U.heap ∧ va_K (dC, dI) vwCl [(cI, .int), (cJ, .long)] U)) (va_Qi (fun (r : Int32) (_ : Unit) => r = (f_X6_finish a0 a1 a2 a3 Th Ce Le De Ke Kc Ko Kl Kd Va).1) (fun _ t => va_P (dC, dI) vwCl (wM ad cI cJ ((f_X6_finish a0 a1 a2 a3 Th Ce Le De Ke Kc Ko Kl Kd Va).2.1) ((f_X6_finish a0 a1 a2 a3 Th Ce Le De Ke Kc Ko Kl Kd Va).2.2.1) ((f_X6_finish a0 a1 a2 a3 Th Ce Le De Ke Kc Ko Kl Kd Va).2.2.2.1) De ((f_X6_finish a0 a1 a2 a3 Th Ce Le De Ke Kc Ko Kl Kd Va).2.2.2.2.1) ((f_X6_finish a0 a1 a2 a3 Th Ce Le De Ke Kc Ko Kl Kd Va).2.2.2.2.2.1) ((f_X6_finish a0 a1 a2 a3 Th Ce Le De Ke Kc Ko Kl Kd Va).2.2.2.2.2.2.1) ((f_X6_finish a0 a1 a2 a3 Th Ce Le De Ke Kc Ko Kl Kd Va).2.2.2.2.2.2.2.1) ((f_X6_finish a0 a1 a2 a3 Th Ce Le De Ke Kc Ko Kl Kd Va).2.2.2.2.2.2.2.2) Ug Ur Va To Tt Td Go Gg Ga Be Bt Si Te Bz Bk) t.heap) (fA 17 ad sz)) 0 0 (fA 17 ad sz) := by
  refine Met.ofW (cc := cX6_finish) (maxL := 6) (ret := (some .int)) (by decide) rfl ?_
  intro p e s m args below meth c s₁ B hml hv
  obtain ⟨rfl, hsz, hP, hK⟩ := hv
  have hx := B.exec
  have hb := B.bytes
  have hr := B.returns
  have hts := mW_hts (atoms_spec (ws := (mW yX6_finish cX6_finish 6 (some .int))) B.pre)
  have hown : s.vm.findClass RX6 = some m.cls := findClass_of_methodNamed B.named
  have hlocks := B.notSynchronized
  subst hsz
  have hA : ∀ (n : Nat) (q : Nat), s.heap.size ≤ n → n ≤ q → fA 17 ad s.heap.size q := fun n q h1 h2 => Or.inr (Nat.le_trans h1 h2)
  have hS : va_S (fA 17 ad s.heap.size) s.heap s.heap [] := va_S.rf
  have hA : ∀ q, s.heap.size ≤ q → (fA 17 ad s.heap.size) q := fun q h => Or.inr h
  unfold S_X6_finish at hs
  have hl := lv_entry ([.ref (ad 0), .int a0, .int a1, .int a2, .int a3]) (n := 6) (Nat.le_of_ble_eq_true rfl)
  rw [lg_entry_eq]
  generalize (lg_sl ([.ref (ad 0), .int a0, .int a1, .int a2, .int a3]) ++ List.replicate (6 - (lg_sl ([.ref (ad 0), .int a0, .int a1, .int a2, .int a3])).length) Slot.unset).toArray = ls at hl ⊢
  have hl : lv_has ls 6 [(0, .ref (ad 0)), (1, .int a0), (2, .int a1), (3, .int a2), (4, .int a3)] := hl
  refine W_gen (fun Q9 hQ9 => ?_)
  refine lv_aload_n hx hb dX6_finish_0 rfl (lv_at hl 0 rfl) ?_
  refine lv_iload_n hx hb dX6_finish_1 rfl (lv_at hl 1 rfl) ?_
  obtain ⟨h1, hs⟩ := hs
  obtain ⟨u2, hu2⟩ : ∃ z, z = f_X6_isWithin a0 Va := ⟨_, rfl⟩
  have hs := hs u2 hu2
  refine q_X6_isWithin hx hb hml hown hts mM_RX6_97 ⟨Nat.le_of_ble_eq_true rfl, Nat.le_of_ble_eq_true rfl⟩ ⟨Nat.le_of_ble_eq_true rfl, Nat.le_of_ble_eq_true rfl⟩ hl.1 (Nat.le_of_ble_eq_true rfl) hS dX6_finish_2 (fun _ h9 => fA_mono hS.1 h9) hi hK hP a0 h1 u2 hu2 (fun H locs hP hS => ?_)
  refine lv_if_ne (tgt := 10) hx hb dX6_finish_5 (by decide) (fun c3 => ?_) (fun c3 => ?_)
  · have hs := hs.2 c3
    refine lv_bipush (v := 32) hx hb dX6_finish_10 (by decide) ?_
    refine lv_iload_n hx hb dX6_finish_12 rfl (lv_at hl 1 rfl) ?_
    refine lv_imul hx hb dX6_finish_13 ?_
    refine lv_iload_n hx hb dX6_finish_14 rfl (lv_at hl 2 rfl) ?_
    refine lv_iadd hx hb dX6_finish_15 ?_
    refine lv_istore (lv' := [(5, .int (((32 : Int32) * a0) + a1)), (0, .ref (ad 0)), (1, .int a0), (2, .int a1), (3, .int a2), (4, .int a3)]) hx hb dX6_finish_16 hl (by decide) rfl (fun ls hl => ?_)
    refine lv_aload_n hx hb dX6_finish_18 rfl (lv_at hl 1 rfl) ?_
    refine lv_aload_n hx hb dX6_finish_19 rfl (lv_at hl 1 rfl) ?_
    refine lv_iload hx hb dX6_finish_20 (lv_at hl 0 rfl) ?_
    refine lv_iload_n hx hb dX6_finish_22 rfl (lv_at hl 4 rfl) ?_
    obtain ⟨h4, hs⟩ := hs
    obtain ⟨u5, hu5⟩ : ∃ z, z = f_X6_isFull (((32 : Int32) * a0) + a1) a2 Le De Ke := ⟨_, rfl⟩
    have hs := hs u5 hu5
    refine q_X6_isFull hx hb hml hown hts mM_RX6_101 ⟨Nat.le_of_ble_eq_true rfl, Nat.le_of_ble_eq_true rfl⟩ ⟨Nat.le_of_ble_eq_true rfl, Nat.le_of_ble_eq_true rfl⟩ hl.1 (Nat.le_of_ble_eq_true rfl) hS dX6_finish_23 (fun _ h9 => fA_mono hS.1 h9) hi hK hP (((32 : Int32) * a0) + a1) a2 h4 u5 hu5 (fun H locs hP hS => ?_)
    refine lv_if_eq (tgt := 34) hx hb dX6_finish_26 (by decide) (fun c6 => ?_) (fun c6 => ?_)
    · have hs := hs.1 c6
      refine lv_iconst (v := 0) hx hb dX6_finish_34 (by decide) ?_
      refine va_put (D := (dC, dI)) (ci := 8) (v := .int (0 : Int32)) (ty := .int) (C := RX6) (T := TX6) (N := 24) hx hb hts iW_X6 tyX6 tyX6_ok nmX6 hown hK hP (fA_D hi rfl) hS 0 rfl rfl 0 (by decide) (hts _ mF_RX6_61) (fun _ h9 => h9) rfl (by decide +kernel) rfl rfl (Nat.le_of_ble_eq_true rfl) dX6_finish_35 (fun H locs hP _ hS => ?_)
      have hP : va_P (dC, dI) vwCl (wM ad cI cJ (0 : Int32) Ce Le De Ke Kc Ko Kl Kd Ug Ur Va To Tt Td Go Gg Ga Be Bt Si Te Bz Bk) H := hP
      refine lv_aload_n hx hb dX6_finish_38 rfl (lv_at hl 1 rfl) ?_
      refine va_get (D := (dC, dI)) (ci := 8) (v := .int (0 : Int32)) (C := RX6) (T := TX6) (N := 24) hx hb hts iW_X6 hown hK hP 0 rfl rfl 0 (by decide) (hts _ mF_RX6_61) (fun _ h9 => h9) rfl dX6_finish_39 ?_
      refine lv_if_le (tgt := 47) hx hb dX6_finish_42 (by decide) (fun c7 => ?_) (fun c7 => ?_)
      · refine lv_aload_n hx hb dX6_finish_47 rfl (lv_at hl 1 rfl) ?_
        refine lv_iload hx hb dX6_finish_48 (lv_at hl 0 rfl) ?_
        refine lv_iload_n hx hb dX6_finish_50 rfl (lv_at hl 4 rfl) ?_
        obtain ⟨h8, hs⟩ := hs
        obtain ⟨u9, hu9⟩ : ∃ z, z = f_X6_put (((32 : Int32) * a0) + a1) a2 Ce Le De Ke Kc Ko Kl Kd Va := ⟨_, rfl⟩
        have hs := hs u9 hu9
        refine q_X6_put hx hb hml hown hts mM_RX6_105 ⟨Nat.le_of_ble_eq_true rfl, Nat.le_of_ble_eq_true rfl⟩ ⟨Nat.le_of_ble_eq_true rfl, Nat.le_of_ble_eq_true rfl⟩ hl.1 (Nat.le_of_ble_eq_true rfl) hS dX6_finish_51 (fun _ h9 => fA_mono hS.1 h9) hi hK hP (((32 : Int32) * a0) + a1) a2 h8 u9 hu9 (fun H locs hP hS => ?_)
        refine lv_iconst (v := 1) hx hb dX6_finish_54 (by decide) ?_
        rw [hQ9]
        have hf : f_X6_finish a0 a1 a2 a3 Th Ce Le De Ke Kc Ko Kl Kd Va = ((1 : Int32), (0 : Int32), u9.1, u9.2.1, u9.2.2.1, u9.2.2.2.1, u9.2.2.2.2.1, u9.2.2.2.2.2.1, u9.2.2.2.2.2.2) := by simp only [f_X6_finish, ← hu2, if_neg c3, ← hu5, if_pos c6, ← hu9]
        exact W.iret (v := (1 : Int32)) hx hb hr (fun t ht hW => ⟨⟨(1 : Int32), (), rfl, by rw [hf], by rw [hf]; show va_P (dC, dI) vwCl _ t.heap; rw [ht]; exact hP⟩, hS.F ht⟩) hS.2.2 dX6_finish_55
      · exact absurd (by decide) c7
    · have hs := hs.2 c6
      refine lv_iload hx hb dX6_finish_29 (lv_at hl 5 rfl) ?_
      refine lv_goto (tgt := 35) hx hb dX6_finish_31 (by decide) ?_
      refine va_put (D := (dC, dI)) (ci := 8) (v := .int a3) (ty := .int) (C := RX6) (T := TX6) (N := 24) hx hb hts iW_X6 tyX6 tyX6_ok nmX6 hown hK hP (fA_D hi rfl) hS 0 rfl rfl 0 (by decide) (hts _ mF_RX6_61) (fun _ h9 => h9) rfl (by decide +kernel) rfl rfl (Nat.le_of_ble_eq_true rfl) dX6_finish_35 (fun H locs hP _ hS => ?_)
      have hP : va_P (dC, dI) vwCl (wM ad cI cJ a3 Ce Le De Ke Kc Ko Kl Kd Ug Ur Va To Tt Td Go Gg Ga Be Bt Si Te Bz Bk) H := hP
      refine lv_aload_n hx hb dX6_finish_38 rfl (lv_at hl 1 rfl) ?_
      refine va_get (D := (dC, dI)) (ci := 8) (v := .int a3) (C := RX6) (T := TX6) (N := 24) hx hb hts iW_X6 hown hK hP 0 rfl rfl 0 (by decide) (hts _ mF_RX6_61) (fun _ h9 => h9) rfl dX6_finish_39 ?_
      refine lv_if_le (tgt := 47) hx hb dX6_finish_42 (by decide) (fun c10 => ?_) (fun c10 => ?_)
      · have hs := hs.1 c10
        refine lv_aload_n hx hb dX6_finish_47 rfl (lv_at hl 1 rfl) ?_
        refine lv_iload hx hb dX6_finish_48 (lv_at hl 0 rfl) ?_
        refine lv_iload_n hx hb dX6_finish_50 rfl (lv_at hl 4 rfl) ?_
        obtain ⟨h11, hs⟩ := hs
        obtain ⟨u12, hu12⟩ : ∃ z, z = f_X6_put (((32 : Int32) * a0) + a1) a2 Ce Le De Ke Kc Ko Kl Kd Va := ⟨_, rfl⟩
        have hs := hs u12 hu12
        refine q_X6_put hx hb hml hown hts mM_RX6_105 ⟨Nat.le_of_ble_eq_true rfl, Nat.le_of_ble_eq_true rfl⟩ ⟨Nat.le_of_ble_eq_true rfl, Nat.le_of_ble_eq_true rfl⟩ hl.1 (Nat.le_of_ble_eq_true rfl) hS dX6_finish_51 (fun _ h9 => fA_mono hS.1 h9) hi hK hP (((32 : Int32) * a0) + a1) a2 h11 u12 hu12 (fun H locs hP hS => ?_)
        refine lv_iconst (v := 1) hx hb dX6_finish_54 (by decide) ?_
        rw [hQ9]
        have hf : f_X6_finish a0 a1 a2 a3 Th Ce Le De Ke Kc Ko Kl Kd Va = ((1 : Int32), a3, u12.1, u12.2.1, u12.2.2.1, u12.2.2.2.1, u12.2.2.2.2.1, u12.2.2.2.2.2.1, u12.2.2.2.2.2.2) := by simp only [f_X6_finish, ← hu2, if_neg c3, ← hu5, if_neg c6, if_pos c10, ← hu12]
        exact W.iret (v := (1 : Int32)) hx hb hr (fun t ht hW => ⟨⟨(1 : Int32), (), rfl, by rw [hf], by rw [hf]; show va_P (dC, dI) vwCl _ t.heap; rw [ht]; exact hP⟩, hS.F ht⟩) hS.2.2 dX6_finish_55
      · have hs := hs.2 c10
        refine lv_iconst (v := 0) hx hb dX6_finish_45 (by decide) ?_
        rw [hQ9]
        have hf : f_X6_finish a0 a1 a2 a3 Th Ce Le De Ke Kc Ko Kl Kd Va = ((0 : Int32), a3, Ce, Le, Ke, Kc, Ko, Kl, Kd) := by simp only [f_X6_finish, ← hu2, if_neg c3, ← hu5, if_neg c6, if_neg c10]
        exact W.iret (v := (0 : Int32)) hx hb hr (fun t ht hW => ⟨⟨(0 : Int32), (), rfl, by rw [hf], by rw [hf]; show va_P (dC, dI) vwCl _ t.heap; rw [ht]; exact hP⟩, hS.F ht⟩) hS.2.2 dX6_finish_46
  · have hs := hs.1 c3
    refine lv_iconst (v := 0) hx hb dX6_finish_8 (by decide) ?_
    rw [hQ9]
    have hf : f_X6_finish a0 a1 a2 a3 Th Ce Le De Ke Kc Ko Kl Kd Va = ((0 : Int32), Th, Ce, Le, Ke, Kc, Ko, Kl, Kd) := by simp only [f_X6_finish, ← hu2, if_pos c3]
    exact W.iret (v := (0 : Int32)) hx hb hr (fun t ht hW => ⟨⟨(0 : Int32), (), rfl, by rw [hf], by rw [hf]; show va_P (dC, dI) vwCl _ t.heap; rw [ht]; exact hP⟩, hS.F ht⟩) hS.2.2 dX6_finish_9
theorem q_X6_finish {p : Program} {l : Launch} {e : Env} {R : Room} {s : State} {m : MethodId} {args : Array Value} {below : List Frame} {meth : Method} {c : Code} {H : Heap} {locs : List Loc} {cells slots : Nat} {Q : State → Prop} {pc : Nat} {ls : Array Slot} {rest : List Value} {cc : ByteArray} {nL idx : Nat} {own : String} {A0 : Nat → Prop} {dC : Nat → ClassId} {dI : Nat → Nat → Nat} {cI cJ : ClassId} {ad : Nat → Nat} {Th : Int32} {Ce : Nat → Int64} {Le : Nat → Int32} {De : Int32} {Ke : Int32} {Kc : Nat → Int64} {Ko : Nat → Int32} {Kl : Nat → Int32} {Kd : Nat → Int32} {Ug : Nat → Int64} {Ur : Nat → Int64} {Va : Nat → Int64} {To : Int32} {Tt : Nat → Int32} {Td : Nat → Int32} {Go : Int32} {Gg : Nat → Int32} {Ga : Nat → Int32} {Be : Int32} {Bt : Nat → Int32} {Si : Int32} {Te : Nat → Int32} {Bz : Int32} {Bk : Nat → Int32} (hx : p.tables.exec = Jvm.exec) (hb : c.code = cc) (hml : c.maxLocals = nL) (hown : s.vm.findClass own = some m.cls) (hts : ∀ w ∈ bigW, w.before args s = true) (hlk : Cond.methodLink own idx yX6_finish ∈ bigW) (hR : 4 ≤ R.frames ∧ 92 ≤ R.locals) (hf : cells + 0 ≤ R.cells ∧ slots + 0 ≤ R.slots) (hz : ls.size = nL) (hw : (rest.map fun v => v.category).sum ≤ 8) (hS : va_S A0 s.heap H locs) (hd : decode cc pc = .ok (.invokevirtual idx, 3)) (hA : ∀ q, fA 17 ad H.size q → A0 q) (hi : fI 17 ad) (hK : va_K (dC, dI) vwCl [(cI, .int), (cJ, .long)] s) (hP : va_P (dC, dI) vwCl (wM ad cI cJ Th Ce Le De Ke Kc Ko Kl Kd Ug Ur Va To Tt Td Go Gg Ga Be Bt Si Te Bz Bk) H) (a0 : Int32) (a1 : Int32) (a2 : Int32) (a3 : Int32) (hs : S_X6_finish a0 a1 a2 a3 Th Ce Le De Ke Kc Ko Kl Kd Va)  (u : Int32 × Int32 × (Nat → Int64) × (Nat → Int32) × Int32 × (Nat → Int64) × (Nat → Int32) × (Nat → Int32) × (Nat → Int32)) (hu : u = f_X6_finish a0 a1 a2 a3 Th Ce Le De Ke Kc Ko Kl Kd Va) (k : ∀ (H1 : Heap) (locs1 : List Loc), va_P (dC, dI) vwCl (wM ad cI cJ u.2.1 u.2.2.1 u.2.2.2.1 De u.2.2.2.2.1 u.2.2.2.2.2.1 u.2.2.2.2.2.2.1 u.2.2.2.2.2.2.2.1 u.2.2.2.2.2.2.2.2 Ug Ur Va To Tt Td Go Gg Ga Be Bt Si Te Bz Bk) H1 → va_S A0 s.heap H1 locs1 → W p l e R s m args below meth c H1 locs1 (cells + 0) (slots + 0) Q (F0 m (pc + 3) ls (.int u.1 :: rest))) : W p l e R s m args below meth c H locs cells slots Q (F0 m pc ls (.int a3 :: .int a2 :: .int a1 :: .int a0 :: .ref (ad 0) :: rest)) := by
  subst hu
  exact va_calli (va_runV (As := [.int a0, .int a1, .int a2, .int a3]) (rest := rest) ⟨hx, hb, hml, hown, hts⟩ (c_X6_finish l dC dI cI cJ ad hi H.size Th Ce Le De Ke Kc Ko Kl Kd Ug Ur Va To Tt Td Go Gg Ga Be Bt Si Te Bz Bk a0 a1 a2 a3 hs) (kV 4 hts hlk mI_X6_finish mN_RX6 mY_X6_finish mV_X6_finish rfl rfl (by decide +kernel) hR) ⟨fun a U g mk q => ⟨q.1, q.2.1, q.2.2.1, va_K.moved (u := U) (U := U.calling g mk a) (Vm.Alike.refl U.vm) q.2.2.2⟩, va_recv hK hP (ci := 8) (q0 := 0) rfl rfl, fun U hU hW => ⟨rfl, by rw [hU], by rw [hU]; exact hP, va_K.moved hW.alike hK⟩⟩ rfl rfl hz rfl (lv_room hw) hd hf) hS (fun q _ h => hA q h) (fun q h => hA q h) (fun r u t H1 locs1 ht hvm hw9 hB hz1 hk1 hS1 => by
    subst hw9
    exact k H1 locs1 (by rw [← ht]; exact hB) hS1)

def L_X6_fetch_2 : Nat → Int32 → (Nat → Int64) → Int32 → Int32 → (Nat → Int64) → Int32 × (Nat → Int64)
  | 0, x3, Va, x1, x2, Ce => (x3, Va)
  | n + 1, x3, Va, x1, x2, Ce => (if (21 : Int32) ≤ x3 then (x3, Va) else L_X6_fetch_2 n (x3 + 1) (vp_updL Va x3.toNatClampNeg (Ce (((21 : Int32) * (((32 : Int32) * x1) + x2)) + x3).toNatClampNeg)) x1 x2 Ce)
def SL_X6_fetch_2 : Nat → Int32 → (Nat → Int64) → Int32 → Int32 → (Nat → Int64) → Prop
  | 0, _, _, _, _, _ => False
  | n + 1, x3, Va, x1, x2, Ce => ((21 : Int32) ≤ x3 → (True)) ∧ (¬ (21 : Int32) ≤ x3 → ((vp_in (((21 : Int32) * (((32 : Int32) * x1) + x2)) + x3) 3360) ∧ ((vp_in x3 21) ∧ (SL_X6_fetch_2 n (x3 + 1) (vp_updL Va x3.toNatClampNeg (Ce (((21 : Int32) * (((32 : Int32) * x1) + x2)) + x3).toNatClampNeg)) x1 x2 Ce))))
def f_X6_fetch (a0 : Int32) (a1 : Int32) (Ce : Nat → Int64) (Va : Nat → Int64) : (Nat → Int64) := (let u1 := L_X6_fetch_2 22 (0 : Int32) Va a0 a1 Ce; u1.2)
def S_X6_fetch (a0 : Int32) (a1 : Int32) (Ce : Nat → Int64) (Va : Nat → Int64) : Prop := (SL_X6_fetch_2 22 (0 : Int32) Va a0 a1 Ce) ∧ (∀ u1, u1 = L_X6_fetch_2 22 (0 : Int32) Va a0 a1 Ce → (True))
set_option maxHeartbeats 4000000 in
set_option maxRecDepth 100000 in
theorem c_X6_fetch (l : Launch) (dC : Nat → ClassId) (dI : Nat → Nat → Nat) (cI cJ : ClassId) (ad : Nat → Nat) (hi : fI 17 ad) (sz : Nat) (Th : Int32) (Ce : Nat → Int64) (Le : Nat → Int32) (De : Int32) (Ke : Int32) (Kc : Nat → Int64) (Ko : Nat → Int32) (Kl : Nat → Int32) (Kd : Nat → Int32) (Ug : Nat → Int64) (Ur : Nat → Int64) (Va : Nat → Int64) (To : Int32) (Tt : Nat → Int32) (Td : Nat → Int32) (Go : Int32) (Gg : Nat → Int32) (Ga : Nat → Int32) (Be : Int32) (Bt : Nat → Int32) (Si : Int32) (Te : Nat → Int32) (Bz : Int32) (Bk : Nat → Int32) (a0 : Int32) (a1 : Int32) (hs : S_X6_fetch a0 a1 Ce Va) : Met l yX6_fetch (mW yX6_fetch cX6_fetch 4 none) { frames := 0, cells := 0, slots := 0, locals := 0 } (va_Pc [.ref (ad 0), .int a0, .int a1] (fun U => U.heap.size = sz ∧ va_P (dC, dI) vwCl (wM ad cI cJ Th Ce Le De Ke Kc Ko Kl Kd Ug Ur Va To Tt Td Go Gg Ga Be Bt Si Te Bz Bk) U.heap ∧ va_K (dC, dI) vwCl [(cI, .int), (cJ, .long)] U)) (va_Qv (fun (_ : Unit) => True) (fun _ t => va_P (dC, dI) vwCl (wM ad cI cJ Th Ce Le De Ke Kc Ko Kl Kd Ug Ur (f_X6_fetch a0 a1 Ce Va) To Tt Td Go Gg Ga Be Bt Si Te Bz Bk) t.heap) (fA 17 ad sz)) 0 0 (fA 17 ad sz) := by
  refine Met.ofW (cc := cX6_fetch) (maxL := 4) (ret := none) (by decide) rfl ?_
  intro p e s m args below meth c s₁ B hml hv
  obtain ⟨rfl, hsz, hP, hK⟩ := hv
  have hx := B.exec
  have hb := B.bytes
  have hr := B.returns
  have hts := mW_hts (atoms_spec (ws := (mW yX6_fetch cX6_fetch 4 none)) B.pre)
  have hown : s.vm.findClass RX6 = some m.cls := findClass_of_methodNamed B.named
  have hlocks := B.notSynchronized
  subst hsz
  have hA : ∀ (n : Nat) (q : Nat), s.heap.size ≤ n → n ≤ q → fA 17 ad s.heap.size q := fun n q h1 h2 => Or.inr (Nat.le_trans h1 h2)
  have hS : va_S (fA 17 ad s.heap.size) s.heap s.heap [] := va_S.rf
  have hA : ∀ q, s.heap.size ≤ q → (fA 17 ad s.heap.size) q := fun q h => Or.inr h
  unfold S_X6_fetch at hs
  have hl := lv_entry ([.ref (ad 0), .int a0, .int a1]) (n := 4) (Nat.le_of_ble_eq_true rfl)
  rw [lg_entry_eq]
  generalize (lg_sl ([.ref (ad 0), .int a0, .int a1]) ++ List.replicate (4 - (lg_sl ([.ref (ad 0), .int a0, .int a1])).length) Slot.unset).toArray = ls at hl ⊢
  have hl : lv_has ls 4 [(0, .ref (ad 0)), (1, .int a0), (2, .int a1)] := hl
  refine W_gen (fun Q9 hQ9 => ?_)
  refine lv_iconst (v := 0) hx hb dX6_fetch_0 (by decide) ?_
  refine lv_istore_n (lv' := [(3, .int (0 : Int32)), (0, .ref (ad 0)), (1, .int a0), (2, .int a1)]) hx hb dX6_fetch_1 rfl hl (by decide) rfl (fun ls hl => ?_)
  obtain ⟨h2, hs⟩ := hs
  obtain ⟨u1, hu1⟩ : ∃ z, z = L_X6_fetch_2 22 (0 : Int32) Va a0 a1 Ce := ⟨_, rfl⟩
  have hs := hs u1 hu1
  have hex3 : ∀ (H : Heap) (locs : List Loc) (ls : Array Slot), va_P (dC, dI) vwCl (wM ad cI cJ Th Ce Le De Ke Kc Ko Kl Kd Ug Ur u1.2 To Tt Td Go Gg Ga Be Bt Si Te Bz Bk) H → va_S (fA 17 ad s.heap.size) s.heap H locs → lv_has ls 4 [(3, .int u1.1), (0, .ref (ad 0)), (1, .int a0), (2, .int a1)] → W p l e (headSpec (mW yX6_fetch cX6_fetch 4 none) { frames := 0, cells := 0, slots := 0, locals := 0 }).room s m ([.ref (ad 0), .int a0, .int a1] : List Value).toArray below meth c H locs 0 0 Q9 (F0 m 36 ls []) := by
    intro H locs ls hP hS hl
    rw [hQ9]
    have hf : f_X6_fetch a0 a1 Ce Va = u1.2 := by simp only [f_X6_fetch, ← hu1]
    exact W.vret hx hb hr (fun t ht hW => ⟨⟨(), rfl, True.intro, by rw [hf]; show va_P (dC, dI) vwCl _ t.heap; rw [ht]; exact hP⟩, hS.F ht⟩) hS.2.2 dX6_fetch_36
  have hlp4 : ∀ (n : Nat) (x3v : Int32) (Vav : Nat → Int64) (H : Heap) (locs : List Loc) (ls : Array Slot), SL_X6_fetch_2 n x3v Vav a0 a1 Ce → u1 = L_X6_fetch_2 n x3v Vav a0 a1 Ce → va_P (dC, dI) vwCl (wM ad cI cJ Th Ce Le De Ke Kc Ko Kl Kd Ug Ur Vav To Tt Td Go Gg Ga Be Bt Si Te Bz Bk) H → va_S (fA 17 ad s.heap.size) s.heap H locs → lv_has ls 4 [(3, .int x3v), (0, .ref (ad 0)), (1, .int a0), (2, .int a1)] → W p l e (headSpec (mW yX6_fetch cX6_fetch 4 none) { frames := 0, cells := 0, slots := 0, locals := 0 }).room s m ([.ref (ad 0), .int a0, .int a1] : List Value).toArray below meth c H locs 0 0 Q9 (F0 m 2 ls []) := by
    intro n
    induction n with
    | zero => intro x3v Vav H locs ls hs; rw [SL_X6_fetch_2] at hs; exact hs.elim
    | succ n ih =>
      intro x3v Vav H locs ls hs hq5 hP hS hl
      rw [SL_X6_fetch_2] at hs
      refine lv_iload_n hx hb dX6_fetch_2 rfl (lv_at hl 0 rfl) ?_
      refine lv_bipush (v := 21) hx hb dX6_fetch_3 (by decide) ?_
      refine lv_icmp_ge (tgt := 36) hx hb dX6_fetch_5 (by decide) (fun c6 => ?_) (fun c6 => ?_)
      · have hs := hs.1 c6
        have he7 : u1 = (x3v, Vav) := by rw [hq5, L_X6_fetch_2]; simp only [if_pos c6, ↓reduceIte]
        exact hex3 _ _ _ (by first | exact hP | (rw [he7]; exact hP)) hS (by first | exact lv_sub hl [0, 1, 2, 3] rfl | (rw [he7]; exact lv_sub hl [0, 1, 2, 3] rfl))
      · have hs := hs.2 c6
        refine lv_aload_n hx hb dX6_fetch_8 rfl (lv_at hl 1 rfl) ?_
        refine va_get (D := (dC, dI)) (ci := 8) (v := .ref (ad 9)) (C := RX6) (T := TX6) (N := 24) hx hb hts iW_X6 hown hK hP 0 rfl rfl 11 (by decide) (hts _ mF_RX6_35) (fun _ h9 => h9) rfl dX6_fetch_9 ?_
        refine lv_iload_n hx hb dX6_fetch_12 rfl (lv_at hl 0 rfl) ?_
        refine lv_aload_n hx hb dX6_fetch_13 rfl (lv_at hl 1 rfl) ?_
        refine va_get (D := (dC, dI)) (ci := 8) (v := .ref (ad 1)) (C := RX6) (T := TX6) (N := 24) hx hb hts iW_X6 hown hK hP 0 rfl rfl 1 (by decide) (hts _ mF_RX6_7) (fun _ h9 => h9) rfl dX6_fetch_14 ?_
        refine lv_bipush (v := 21) hx hb dX6_fetch_17 (by decide) ?_
        refine lv_bipush (v := 32) hx hb dX6_fetch_19 (by decide) ?_
        refine lv_iload_n hx hb dX6_fetch_21 rfl (lv_at hl 2 rfl) ?_
        refine lv_imul hx hb dX6_fetch_22 ?_
        refine lv_iload_n hx hb dX6_fetch_23 rfl (lv_at hl 3 rfl) ?_
        refine lv_iadd hx hb dX6_fetch_24 ?_
        refine lv_imul hx hb dX6_fetch_25 ?_
        refine lv_iload_n hx hb dX6_fetch_26 rfl (lv_at hl 0 rfl) ?_
        refine lv_iadd hx hb dX6_fetch_27 ?_
        obtain ⟨h8, hs⟩ := hs
        refine va_lald hx hb hK hP 1 1 rfl rfl h8 dX6_fetch_28 ?_
        obtain ⟨h9, hs⟩ := hs
        refine va_last hx hb hK hP (fA_D hi rfl) hS 9 1 rfl rfl h9 dX6_fetch_29 (fun H locs hP _ hS => ?_)
        have hP : va_P (dC, dI) vwCl (wM ad cI cJ Th Ce Le De Ke Kc Ko Kl Kd Ug Ur (vp_updL Vav x3v.toNatClampNeg (Ce (((21 : Int32) * (((32 : Int32) * a0) + a1)) + x3v).toNatClampNeg)) To Tt Td Go Gg Ga Be Bt Si Te Bz Bk) H := hP
        refine lv_iinc (v := (x3v + 1)) (lv' := [(3, .int (x3v + 1)), (0, .ref (ad 0)), (1, .int a0), (2, .int a1)]) hx hb dX6_fetch_30 hl (k := 0) rfl rfl (by decide) rfl (fun ls hl => ?_)
        refine lv_goto (tgt := 2) hx hb dX6_fetch_33 (by decide) ?_
        exact ih (x3v + 1) (vp_updL Vav x3v.toNatClampNeg (Ce (((21 : Int32) * (((32 : Int32) * a0) + a1)) + x3v).toNatClampNeg)) _ _ _ hs (by rw [hq5, L_X6_fetch_2]; simp only [if_neg c6, ↓reduceIte]) hP hS (lv_sub hl [0, 1, 2, 3] rfl)
  exact hlp4 22 (0 : Int32) Va _ _ _ h2 hu1 hP hS (lv_sub hl [0, 1, 2, 3] rfl)
theorem q_X6_fetch {p : Program} {l : Launch} {e : Env} {R : Room} {s : State} {m : MethodId} {args : Array Value} {below : List Frame} {meth : Method} {c : Code} {H : Heap} {locs : List Loc} {cells slots : Nat} {Q : State → Prop} {pc : Nat} {ls : Array Slot} {rest : List Value} {cc : ByteArray} {nL idx : Nat} {own : String} {A0 : Nat → Prop} {dC : Nat → ClassId} {dI : Nat → Nat → Nat} {cI cJ : ClassId} {ad : Nat → Nat} {Th : Int32} {Ce : Nat → Int64} {Le : Nat → Int32} {De : Int32} {Ke : Int32} {Kc : Nat → Int64} {Ko : Nat → Int32} {Kl : Nat → Int32} {Kd : Nat → Int32} {Ug : Nat → Int64} {Ur : Nat → Int64} {Va : Nat → Int64} {To : Int32} {Tt : Nat → Int32} {Td : Nat → Int32} {Go : Int32} {Gg : Nat → Int32} {Ga : Nat → Int32} {Be : Int32} {Bt : Nat → Int32} {Si : Int32} {Te : Nat → Int32} {Bz : Int32} {Bk : Nat → Int32} (hx : p.tables.exec = Jvm.exec) (hb : c.code = cc) (hml : c.maxLocals = nL) (hown : s.vm.findClass own = some m.cls) (hts : ∀ w ∈ bigW, w.before args s = true) (hlk : Cond.methodLink own idx yX6_fetch ∈ bigW) (hR : 1 ≤ R.frames ∧ 23 ≤ R.locals) (hf : cells + 0 ≤ R.cells ∧ slots + 0 ≤ R.slots) (hz : ls.size = nL) (hw : (rest.map fun v => v.category).sum ≤ 8) (hS : va_S A0 s.heap H locs) (hd : decode cc pc = .ok (.invokevirtual idx, 3)) (hA : ∀ q, fA 17 ad H.size q → A0 q) (hi : fI 17 ad) (hK : va_K (dC, dI) vwCl [(cI, .int), (cJ, .long)] s) (hP : va_P (dC, dI) vwCl (wM ad cI cJ Th Ce Le De Ke Kc Ko Kl Kd Ug Ur Va To Tt Td Go Gg Ga Be Bt Si Te Bz Bk) H) (a0 : Int32) (a1 : Int32) (hs : S_X6_fetch a0 a1 Ce Va)  (u : (Nat → Int64)) (hu : u = f_X6_fetch a0 a1 Ce Va) (k : ∀ (H1 : Heap) (locs1 : List Loc), va_P (dC, dI) vwCl (wM ad cI cJ Th Ce Le De Ke Kc Ko Kl Kd Ug Ur u To Tt Td Go Gg Ga Be Bt Si Te Bz Bk) H1 → va_S A0 s.heap H1 locs1 → W p l e R s m args below meth c H1 locs1 (cells + 0) (slots + 0) Q (F0 m (pc + 3) ls (rest))) : W p l e R s m args below meth c H locs cells slots Q (F0 m pc ls (.int a1 :: .int a0 :: .ref (ad 0) :: rest)) := by
  subst hu
  exact va_callv (va_runV (As := [.int a0, .int a1]) (rest := rest) ⟨hx, hb, hml, hown, hts⟩ (c_X6_fetch l dC dI cI cJ ad hi H.size Th Ce Le De Ke Kc Ko Kl Kd Ug Ur Va To Tt Td Go Gg Ga Be Bt Si Te Bz Bk a0 a1 hs) (kV 2 hts hlk mI_X6_fetch mN_RX6 mY_X6_fetch mV_X6_fetch rfl rfl (by decide +kernel) hR) ⟨fun a U g mk q => ⟨q.1, q.2.1, q.2.2.1, va_K.moved (u := U) (U := U.calling g mk a) (Vm.Alike.refl U.vm) q.2.2.2⟩, va_recv hK hP (ci := 8) (q0 := 0) rfl rfl, fun U hU hW => ⟨rfl, by rw [hU], by rw [hU]; exact hP, va_K.moved hW.alike hK⟩⟩ rfl rfl hz rfl (lv_room hw) hd hf) hS (fun q _ h => hA q h) (fun q h => hA q h) (fun u t H1 locs1 ht hvm hw9 hB hz1 hk1 hS1 => by
    skip
    exact k H1 locs1 (by rw [← ht]; exact hB) hS1)

def L_X6_set_57 : Nat → Int32 → (Nat → Int64) → Int32 → Int64 → (Nat → Int64) → (Nat → Int64) → Int32 × (Nat → Int64)
  | 0, x6, Va, x1, x3, Ug, Ur => (x6, Va)
  | n + 1, x6, Va, x1, x3, Ug, Ur => (if (21 : Int32) ≤ x6 then (x6, Va) else (if x1 = (3 : Int32) then L_X6_set_57 n (x6 + 1) (vp_updL Va x6.toNatClampNeg (Ur x6.toNatClampNeg)) x1 x3 Ug Ur else (if x1 = (2 : Int32) then (if (5 : Int32) ≤ x6 then L_X6_set_57 n (x6 + 1) (vp_updL Va x6.toNatClampNeg (0 : Int64)) x1 x3 Ug Ur else L_X6_set_57 n (x6 + 1) (vp_updL Va x6.toNatClampNeg (Ug x6.toNatClampNeg)) x1 x3 Ug Ur) else (if x6 = 0 then L_X6_set_57 n (x6 + 1) (vp_updL Va x6.toNatClampNeg x3) x1 x3 Ug Ur else L_X6_set_57 n (x6 + 1) (vp_updL Va x6.toNatClampNeg (0 : Int64)) x1 x3 Ug Ur))))
def SL_X6_set_57 : Nat → Int32 → (Nat → Int64) → Int32 → Int64 → (Nat → Int64) → (Nat → Int64) → Prop
  | 0, _, _, _, _, _, _ => False
  | n + 1, x6, Va, x1, x3, Ug, Ur => ((21 : Int32) ≤ x6 → (True)) ∧ (¬ (21 : Int32) ≤ x6 → ((x1 = (3 : Int32) → ((vp_in x6 21) ∧ ((vp_in x6 21) ∧ (SL_X6_set_57 n (x6 + 1) (vp_updL Va x6.toNatClampNeg (Ur x6.toNatClampNeg)) x1 x3 Ug Ur)))) ∧ (¬ x1 = (3 : Int32) → ((x1 = (2 : Int32) → (((5 : Int32) ≤ x6 → ((vp_in x6 21) ∧ (SL_X6_set_57 n (x6 + 1) (vp_updL Va x6.toNatClampNeg (0 : Int64)) x1 x3 Ug Ur))) ∧ (¬ (5 : Int32) ≤ x6 → ((vp_in x6 5) ∧ ((vp_in x6 21) ∧ (SL_X6_set_57 n (x6 + 1) (vp_updL Va x6.toNatClampNeg (Ug x6.toNatClampNeg)) x1 x3 Ug Ur)))))) ∧ (¬ x1 = (2 : Int32) → ((x6 = 0 → ((vp_in x6 21) ∧ (SL_X6_set_57 n (x6 + 1) (vp_updL Va x6.toNatClampNeg x3) x1 x3 Ug Ur))) ∧ (¬ x6 = 0 → ((vp_in x6 21) ∧ (SL_X6_set_57 n (x6 + 1) (vp_updL Va x6.toNatClampNeg (0 : Int64)) x1 x3 Ug Ur)))))))))
def f_X6_set (a0 : Int32) (a1 : Int32) (a2 : Int64) (a3 : Int32) (Th : Int32) (Ce : Nat → Int64) (Le : Nat → Int32) (De : Int32) (Ke : Int32) (Kc : Nat → Int64) (Ko : Nat → Int32) (Kl : Nat → Int32) (Kd : Nat → Int32) (Ug : Nat → Int64) (Ur : Nat → Int64) (Va : Nat → Int64) : Int32 × Int32 × (Nat → Int64) × (Nat → Int32) × Int32 × (Nat → Int64) × (Nat → Int32) × (Nat → Int32) × (Nat → Int32) × (Nat → Int64) × (Nat → Int64) := (if (f_X6_isKind a0) = 0 then ((0 : Int32), (1 : Int32), Ce, Le, Ke, Kc, Ko, Kl, Kd, Ur, Va) else (if a0 = (4 : Int32) then (if (f_X6_in a2 (-1 : Int64) (999 : Int64)) = 0 then ((0 : Int32), (1 : Int32), Ce, Le, Ke, Kc, Ko, Kl, Kd, Ur, Va) else (if (f_X6_isRegister a1) = 0 then ((0 : Int32), (2 : Int32), Ce, Le, Ke, Kc, Ko, Kl, Kd, Ur, Va) else (let u33 := L_X6_set_57 22 (0 : Int32) Va a0 a2 Ug Ur; (let u37 := f_X6_finish a0 a1 a3 (3 : Int32) (0 : Int32) Ce Le De Ke Kc Ko Kl Kd u33.2; (if u37.1 = (1 : Int32) then (if a0 = (3 : Int32) then (u37.1, u37.2.1, u37.2.2.1, u37.2.2.2.1, u37.2.2.2.2.1, u37.2.2.2.2.2.1, u37.2.2.2.2.2.2.1, u37.2.2.2.2.2.2.2.1, u37.2.2.2.2.2.2.2.2, (vp_updL Ur (0 : Int32).toNatClampNeg (0 : Int64)), u33.2) else (u37.1, u37.2.1, u37.2.2.1, u37.2.2.2.1, u37.2.2.2.2.1, u37.2.2.2.2.2.1, u37.2.2.2.2.2.2.1, u37.2.2.2.2.2.2.2.1, u37.2.2.2.2.2.2.2.2, Ur, u33.2)) else (u37.1, u37.2.1, u37.2.2.1, u37.2.2.2.1, u37.2.2.2.2.1, u37.2.2.2.2.2.1, u37.2.2.2.2.2.2.1, u37.2.2.2.2.2.2.2.1, u37.2.2.2.2.2.2.2.2, Ur, u33.2)))))) else (if (f_X6_isRegister a1) = 0 then ((0 : Int32), (2 : Int32), Ce, Le, Ke, Kc, Ko, Kl, Kd, Ur, Va) else (let u6 := L_X6_set_57 22 (0 : Int32) Va a0 a2 Ug Ur; (let u10 := f_X6_finish a0 a1 a3 (3 : Int32) (0 : Int32) Ce Le De Ke Kc Ko Kl Kd u6.2; (if u10.1 = (1 : Int32) then (if a0 = (3 : Int32) then (u10.1, u10.2.1, u10.2.2.1, u10.2.2.2.1, u10.2.2.2.2.1, u10.2.2.2.2.2.1, u10.2.2.2.2.2.2.1, u10.2.2.2.2.2.2.2.1, u10.2.2.2.2.2.2.2.2, (vp_updL Ur (0 : Int32).toNatClampNeg (0 : Int64)), u6.2) else (u10.1, u10.2.1, u10.2.2.1, u10.2.2.2.1, u10.2.2.2.2.1, u10.2.2.2.2.2.1, u10.2.2.2.2.2.2.1, u10.2.2.2.2.2.2.2.1, u10.2.2.2.2.2.2.2.2, Ur, u6.2)) else (u10.1, u10.2.1, u10.2.2.1, u10.2.2.2.1, u10.2.2.2.2.1, u10.2.2.2.2.2.1, u10.2.2.2.2.2.2.1, u10.2.2.2.2.2.2.2.1, u10.2.2.2.2.2.2.2.2, Ur, u6.2)))))))
def S_X6_set (a0 : Int32) (a1 : Int32) (a2 : Int64) (a3 : Int32) (Th : Int32) (Ce : Nat → Int64) (Le : Nat → Int32) (De : Int32) (Ke : Int32) (Kc : Nat → Int64) (Ko : Nat → Int32) (Kl : Nat → Int32) (Kd : Nat → Int32) (Ug : Nat → Int64) (Ur : Nat → Int64) (Va : Nat → Int64) : Prop := ((f_X6_isKind a0) = 0 → (True)) ∧ (¬ (f_X6_isKind a0) = 0 → ((a0 = (4 : Int32) → (((f_X6_in a2 (-1 : Int64) (999 : Int64)) = 0 → (True)) ∧ (¬ (f_X6_in a2 (-1 : Int64) (999 : Int64)) = 0 → (((f_X6_isRegister a1) = 0 → (True)) ∧ (¬ (f_X6_isRegister a1) = 0 → ((SL_X6_set_57 22 (0 : Int32) Va a0 a2 Ug Ur) ∧ (∀ u33, u33 = L_X6_set_57 22 (0 : Int32) Va a0 a2 Ug Ur → ((S_X6_finish a0 a1 a3 (3 : Int32) (0 : Int32) Ce Le De Ke Kc Ko Kl Kd u33.2) ∧ (∀ u37, u37 = f_X6_finish a0 a1 a3 (3 : Int32) (0 : Int32) Ce Le De Ke Kc Ko Kl Kd u33.2 → ((u37.1 = (1 : Int32) → ((a0 = (3 : Int32) → ((vp_in (0 : Int32) 21) ∧ (True))) ∧ (¬ a0 = (3 : Int32) → (True)))) ∧ (¬ u37.1 = (1 : Int32) → (True)))))))))))) ∧ (¬ a0 = (4 : Int32) → (((f_X6_isRegister a1) = 0 → (True)) ∧ (¬ (f_X6_isRegister a1) = 0 → ((SL_X6_set_57 22 (0 : Int32) Va a0 a2 Ug Ur) ∧ (∀ u6, u6 = L_X6_set_57 22 (0 : Int32) Va a0 a2 Ug Ur → ((S_X6_finish a0 a1 a3 (3 : Int32) (0 : Int32) Ce Le De Ke Kc Ko Kl Kd u6.2) ∧ (∀ u10, u10 = f_X6_finish a0 a1 a3 (3 : Int32) (0 : Int32) Ce Le De Ke Kc Ko Kl Kd u6.2 → ((u10.1 = (1 : Int32) → ((a0 = (3 : Int32) → ((vp_in (0 : Int32) 21) ∧ (True))) ∧ (¬ a0 = (3 : Int32) → (True)))) ∧ (¬ u10.1 = (1 : Int32) → (True))))))))))))
set_option maxHeartbeats 4000000 in
set_option maxRecDepth 100000 in
theorem c_X6_set (l : Launch) (dC : Nat → ClassId) (dI : Nat → Nat → Nat) (cI cJ : ClassId) (ad : Nat → Nat) (hi : fI 17 ad) (sz : Nat) (Th : Int32) (Ce : Nat → Int64) (Le : Nat → Int32) (De : Int32) (Ke : Int32) (Kc : Nat → Int64) (Ko : Nat → Int32) (Kl : Nat → Int32) (Kd : Nat → Int32) (Ug : Nat → Int64) (Ur : Nat → Int64) (Va : Nat → Int64) (To : Int32) (Tt : Nat → Int32) (Td : Nat → Int32) (Go : Int32) (Gg : Nat → Int32) (Ga : Nat → Int32) (Be : Int32) (Bt : Nat → Int32) (Si : Int32) (Te : Nat → Int32) (Bz : Int32) (Bk : Nat → Int32) (a0 : Int32) (a1 : Int32) (a2 : Int64) (a3 : Int32) (hs : S_X6_set a0 a1 a2 a3 Th Ce Le De Ke Kc Ko Kl Kd Ug Ur Va) : Met l yX6_set (mW yX6_set cX6_set 7 (some .int)) { frames := 4, cells := 0, slots := 0, locals := 92 } (va_Pc [.ref (ad 0), .int a0, .int a1, .long a2, .int a3] (fun U => U.heap.size = sz ∧ va_P (dC, dI) vwCl (wM ad cI cJ Th Ce Le De Ke Kc Ko Kl Kd Ug Ur Va To Tt Td Go Gg Ga Be Bt Si Te Bz Bk) U.heap ∧ va_K (dC, dI) vwCl [(cI, .int), (cJ, .long)] U)) (va_Qi (fun (r : Int32) (_ : Unit) => r = (f_X6_set a0 a1 a2 a3 Th Ce Le De Ke Kc Ko Kl Kd Ug Ur Va).1) (fun _ t => va_P (dC, dI) vwCl (wM ad cI cJ ((f_X6_set a0 a1 a2 a3 Th Ce Le De Ke Kc Ko Kl Kd Ug Ur Va).2.1) ((f_X6_set a0 a1 a2 a3 Th Ce Le De Ke Kc Ko Kl Kd Ug Ur Va).2.2.1) ((f_X6_set a0 a1 a2 a3 Th Ce Le De Ke Kc Ko Kl Kd Ug Ur Va).2.2.2.1) De ((f_X6_set a0 a1 a2 a3 Th Ce Le De Ke Kc Ko Kl Kd Ug Ur Va).2.2.2.2.1) ((f_X6_set a0 a1 a2 a3 Th Ce Le De Ke Kc Ko Kl Kd Ug Ur Va).2.2.2.2.2.1) ((f_X6_set a0 a1 a2 a3 Th Ce Le De Ke Kc Ko Kl Kd Ug Ur Va).2.2.2.2.2.2.1) ((f_X6_set a0 a1 a2 a3 Th Ce Le De Ke Kc Ko Kl Kd Ug Ur Va).2.2.2.2.2.2.2.1) ((f_X6_set a0 a1 a2 a3 Th Ce Le De Ke Kc Ko Kl Kd Ug Ur Va).2.2.2.2.2.2.2.2.1) Ug ((f_X6_set a0 a1 a2 a3 Th Ce Le De Ke Kc Ko Kl Kd Ug Ur Va).2.2.2.2.2.2.2.2.2.1) ((f_X6_set a0 a1 a2 a3 Th Ce Le De Ke Kc Ko Kl Kd Ug Ur Va).2.2.2.2.2.2.2.2.2.2) To Tt Td Go Gg Ga Be Bt Si Te Bz Bk) t.heap) (fA 17 ad sz)) 0 0 (fA 17 ad sz) := by
  refine Met.ofW (cc := cX6_set) (maxL := 7) (ret := (some .int)) (by decide) rfl ?_
  intro p e s m args below meth c s₁ B hml hv
  obtain ⟨rfl, hsz, hP, hK⟩ := hv
  have hx := B.exec
  have hb := B.bytes
  have hr := B.returns
  have hts := mW_hts (atoms_spec (ws := (mW yX6_set cX6_set 7 (some .int))) B.pre)
  have hown : s.vm.findClass RX6 = some m.cls := findClass_of_methodNamed B.named
  have hlocks := B.notSynchronized
  subst hsz
  have hA : ∀ (n : Nat) (q : Nat), s.heap.size ≤ n → n ≤ q → fA 17 ad s.heap.size q := fun n q h1 h2 => Or.inr (Nat.le_trans h1 h2)
  have hS : va_S (fA 17 ad s.heap.size) s.heap s.heap [] := va_S.rf
  have hA : ∀ q, s.heap.size ≤ q → (fA 17 ad s.heap.size) q := fun q h => Or.inr h
  unfold S_X6_set at hs
  have hl := lv_entry ([.ref (ad 0), .int a0, .int a1, .long a2, .int a3]) (n := 7) (Nat.le_of_ble_eq_true rfl)
  rw [lg_entry_eq]
  generalize (lg_sl ([.ref (ad 0), .int a0, .int a1, .long a2, .int a3]) ++ List.replicate (7 - (lg_sl ([.ref (ad 0), .int a0, .int a1, .long a2, .int a3])).length) Slot.unset).toArray = ls at hl ⊢
  have hl : lv_has ls 7 [(0, .ref (ad 0)), (1, .int a0), (2, .int a1), (3, .long a2), (5, .int a3)] := hl
  refine W_gen (fun Q9 hQ9 => ?_)
  refine lv_aload_n hx hb dX6_set_0 rfl (lv_at hl 0 rfl) ?_
  refine lv_iload_n hx hb dX6_set_1 rfl (lv_at hl 1 rfl) ?_
  refine q_X6_isKind hx hb hml hown hts mM_RX6_109 ⟨Nat.le_of_ble_eq_true rfl, Nat.le_of_ble_eq_true rfl⟩ ⟨Nat.le_of_ble_eq_true rfl, Nat.le_of_ble_eq_true rfl⟩ hl.1 (Nat.le_of_ble_eq_true rfl) hS dX6_set_2 hA a0 (fun locs hS => ?_)
  refine lv_if_eq (tgt := 26) hx hb dX6_set_5 (by decide) (fun c1 => ?_) (fun c1 => ?_)
  · have hs := hs.1 c1
    refine lv_iconst (v := 1) hx hb dX6_set_26 (by decide) ?_
    refine lv_goto (tgt := 42) hx hb dX6_set_27 (by decide) ?_
    refine va_put (D := (dC, dI)) (ci := 8) (v := .int (1 : Int32)) (ty := .int) (C := RX6) (T := TX6) (N := 24) hx hb hts iW_X6 tyX6 tyX6_ok nmX6 hown hK hP (fA_D hi rfl) hS 0 rfl rfl 0 (by decide) (hts _ mF_RX6_61) (fun _ h9 => h9) rfl (by decide +kernel) rfl rfl (Nat.le_of_ble_eq_true rfl) dX6_set_42 (fun H locs hP _ hS => ?_)
    have hP : va_P (dC, dI) vwCl (wM ad cI cJ (1 : Int32) Ce Le De Ke Kc Ko Kl Kd Ug Ur Va To Tt Td Go Gg Ga Be Bt Si Te Bz Bk) H := hP
    refine lv_aload_n hx hb dX6_set_45 rfl (lv_at hl 0 rfl) ?_
    refine va_get (D := (dC, dI)) (ci := 8) (v := .int (1 : Int32)) (C := RX6) (T := TX6) (N := 24) hx hb hts iW_X6 hown hK hP 0 rfl rfl 0 (by decide) (hts _ mF_RX6_61) (fun _ h9 => h9) rfl dX6_set_46 ?_
    refine lv_if_le (tgt := 54) hx hb dX6_set_49 (by decide) (fun c2 => ?_) (fun c2 => ?_)
    · exact absurd c2 (by decide)
    · refine lv_iconst (v := 0) hx hb dX6_set_52 (by decide) ?_
      rw [hQ9]
      have hf : f_X6_set a0 a1 a2 a3 Th Ce Le De Ke Kc Ko Kl Kd Ug Ur Va = ((0 : Int32), (1 : Int32), Ce, Le, Ke, Kc, Ko, Kl, Kd, Ur, Va) := by simp only [f_X6_set, if_pos c1]
      exact W.iret (v := (0 : Int32)) hx hb hr (fun t ht hW => ⟨⟨(0 : Int32), (), rfl, by rw [hf], by rw [hf]; show va_P (dC, dI) vwCl _ t.heap; rw [ht]; exact hP⟩, hS.F ht⟩) hS.2.2 dX6_set_53
  · have hs := hs.2 c1
    refine lv_iload_n hx hb dX6_set_8 rfl (lv_at hl 1 rfl) ?_
    refine lv_iconst (v := 4) hx hb dX6_set_9 (by decide) ?_
    refine lv_icmp_ne (tgt := 30) hx hb dX6_set_10 (by decide) (fun c3 => ?_) (fun c3 => ?_)
    · have hs := hs.2 c3
      refine lv_iload_n hx hb dX6_set_30 rfl (lv_at hl 2 rfl) ?_
      refine q_X6_isRegister hx hb hml hown hts mM_RX6_114 ⟨Nat.le_of_ble_eq_true rfl, Nat.le_of_ble_eq_true rfl⟩ ⟨Nat.le_of_ble_eq_true rfl, Nat.le_of_ble_eq_true rfl⟩ hl.1 (Nat.le_of_ble_eq_true rfl) hS dX6_set_31 hA a1 (fun locs hS => ?_)
      refine lv_if_ne (tgt := 41) hx hb dX6_set_34 (by decide) (fun c4 => ?_) (fun c4 => ?_)
      · have hs := hs.2 c4
        refine lv_iconst (v := 0) hx hb dX6_set_41 (by decide) ?_
        refine va_put (D := (dC, dI)) (ci := 8) (v := .int (0 : Int32)) (ty := .int) (C := RX6) (T := TX6) (N := 24) hx hb hts iW_X6 tyX6 tyX6_ok nmX6 hown hK hP (fA_D hi rfl) hS 0 rfl rfl 0 (by decide) (hts _ mF_RX6_61) (fun _ h9 => h9) rfl (by decide +kernel) rfl rfl (Nat.le_of_ble_eq_true rfl) dX6_set_42 (fun H locs hP _ hS => ?_)
        have hP : va_P (dC, dI) vwCl (wM ad cI cJ (0 : Int32) Ce Le De Ke Kc Ko Kl Kd Ug Ur Va To Tt Td Go Gg Ga Be Bt Si Te Bz Bk) H := hP
        refine lv_aload_n hx hb dX6_set_45 rfl (lv_at hl 0 rfl) ?_
        refine va_get (D := (dC, dI)) (ci := 8) (v := .int (0 : Int32)) (C := RX6) (T := TX6) (N := 24) hx hb hts iW_X6 hown hK hP 0 rfl rfl 0 (by decide) (hts _ mF_RX6_61) (fun _ h9 => h9) rfl dX6_set_46 ?_
        refine lv_if_le (tgt := 54) hx hb dX6_set_49 (by decide) (fun c5 => ?_) (fun c5 => ?_)
        · refine lv_iconst (v := 0) hx hb dX6_set_54 (by decide) ?_
          refine lv_istore (lv' := [(6, .int (0 : Int32)), (0, .ref (ad 0)), (1, .int a0), (2, .int a1), (3, .long a2), (5, .int a3)]) hx hb dX6_set_55 hl (by decide) rfl (fun ls hl => ?_)
          obtain ⟨h7, hs⟩ := hs
          obtain ⟨u6, hu6⟩ : ∃ z, z = L_X6_set_57 22 (0 : Int32) Va a0 a2 Ug Ur := ⟨_, rfl⟩
          have hs := hs u6 hu6
          have hex8 : ∀ (H : Heap) (locs : List Loc) (ls : Array Slot), va_P (dC, dI) vwCl (wM ad cI cJ (0 : Int32) Ce Le De Ke Kc Ko Kl Kd Ug Ur u6.2 To Tt Td Go Gg Ga Be Bt Si Te Bz Bk) H → va_S (fA 17 ad s.heap.size) s.heap H locs → lv_has ls 7 [(6, .int u6.1), (0, .ref (ad 0)), (1, .int a0), (2, .int a1), (3, .long a2), (5, .int a3)] → W p l e (headSpec (mW yX6_set cX6_set 7 (some .int)) { frames := 4, cells := 0, slots := 0, locals := 92 }).room s m ([.ref (ad 0), .int a0, .int a1, .long a2, .int a3] : List Value).toArray below meth c H locs 0 0 Q9 (F0 m 127 ls []) := by
            intro H locs ls hP hS hl
            refine lv_aload_n hx hb dX6_set_127 rfl (lv_at hl 1 rfl) ?_
            refine lv_iload_n hx hb dX6_set_128 rfl (lv_at hl 2 rfl) ?_
            refine lv_iload_n hx hb dX6_set_129 rfl (lv_at hl 3 rfl) ?_
            refine lv_iload hx hb dX6_set_130 (lv_at hl 5 rfl) ?_
            refine lv_iconst (v := 3) hx hb dX6_set_132 (by decide) ?_
            obtain ⟨h9, hs⟩ := hs
            obtain ⟨u10, hu10⟩ : ∃ z, z = f_X6_finish a0 a1 a3 (3 : Int32) (0 : Int32) Ce Le De Ke Kc Ko Kl Kd u6.2 := ⟨_, rfl⟩
            have hs := hs u10 hu10
            refine q_X6_finish hx hb hml hown hts mM_RX6_117 ⟨Nat.le_of_ble_eq_true rfl, Nat.le_of_ble_eq_true rfl⟩ ⟨Nat.le_of_ble_eq_true rfl, Nat.le_of_ble_eq_true rfl⟩ hl.1 (Nat.le_of_ble_eq_true rfl) hS dX6_set_133 (fun _ h9 => fA_mono hS.1 h9) hi hK hP a0 a1 a3 (3 : Int32) h9 u10 hu10 (fun H locs hP hS => ?_)
            refine lv_istore (lv' := [(6, .int u10.1), (0, .ref (ad 0)), (1, .int a0), (2, .int a1), (3, .long a2), (5, .int a3)]) hx hb dX6_set_136 hl (by decide) rfl (fun ls hl => ?_)
            refine lv_iload hx hb dX6_set_138 (lv_at hl 0 rfl) ?_
            refine lv_iconst (v := 1) hx hb dX6_set_140 (by decide) ?_
            refine lv_icmp_ne (tgt := 156) hx hb dX6_set_141 (by decide) (fun c11 => ?_) (fun c11 => ?_)
            · have hs := hs.2 c11
              refine lv_iload hx hb dX6_set_156 (lv_at hl 0 rfl) ?_
              rw [hQ9]
              have hf : f_X6_set a0 a1 a2 a3 Th Ce Le De Ke Kc Ko Kl Kd Ug Ur Va = (u10.1, u10.2.1, u10.2.2.1, u10.2.2.2.1, u10.2.2.2.2.1, u10.2.2.2.2.2.1, u10.2.2.2.2.2.2.1, u10.2.2.2.2.2.2.2.1, u10.2.2.2.2.2.2.2.2, Ur, u6.2) := by simp only [f_X6_set, if_neg c1, if_neg c3, if_neg c4, ← hu6, ← hu10, if_neg c11]
              exact W.iret (v := u10.1) hx hb hr (fun t ht hW => ⟨⟨u10.1, (), rfl, by rw [hf], by rw [hf]; show va_P (dC, dI) vwCl _ t.heap; rw [ht]; exact hP⟩, hS.F ht⟩) hS.2.2 dX6_set_158
            · have hs := hs.1 c11
              refine lv_iload_n hx hb dX6_set_144 rfl (lv_at hl 2 rfl) ?_
              refine lv_iconst (v := 3) hx hb dX6_set_145 (by decide) ?_
              refine lv_icmp_ne (tgt := 156) hx hb dX6_set_146 (by decide) (fun c12 => ?_) (fun c12 => ?_)
              · have hs := hs.2 c12
                refine lv_iload hx hb dX6_set_156 (lv_at hl 0 rfl) ?_
                rw [hQ9]
                have hf : f_X6_set a0 a1 a2 a3 Th Ce Le De Ke Kc Ko Kl Kd Ug Ur Va = (u10.1, u10.2.1, u10.2.2.1, u10.2.2.2.1, u10.2.2.2.2.1, u10.2.2.2.2.2.1, u10.2.2.2.2.2.2.1, u10.2.2.2.2.2.2.2.1, u10.2.2.2.2.2.2.2.2, Ur, u6.2) := by simp only [f_X6_set, if_neg c1, if_neg c3, if_neg c4, ← hu6, ← hu10, if_pos c11, if_neg c12]
                exact W.iret (v := u10.1) hx hb hr (fun t ht hW => ⟨⟨u10.1, (), rfl, by rw [hf], by rw [hf]; show va_P (dC, dI) vwCl _ t.heap; rw [ht]; exact hP⟩, hS.F ht⟩) hS.2.2 dX6_set_158
              · have hs := hs.1 c12
                refine lv_aload_n hx hb dX6_set_149 rfl (lv_at hl 1 rfl) ?_
                refine va_get (D := (dC, dI)) (ci := 8) (v := .ref (ad 8)) (C := RX6) (T := TX6) (N := 24) hx hb hts iW_X6 hown hK hP 0 rfl rfl 10 (by decide) (hts _ mF_RX6_32) (fun _ h9 => h9) rfl dX6_set_150 ?_
                refine lv_iconst (v := 0) hx hb dX6_set_153 (by decide) ?_
                refine lv_lconst (v := 0) hx hb dX6_set_154 (by decide) ?_
                obtain ⟨h13, hs⟩ := hs
                refine va_last hx hb hK hP (fA_D hi rfl) hS 8 1 rfl rfl h13 dX6_set_155 (fun H locs hP _ hS => ?_)
                have hP : va_P (dC, dI) vwCl (wM ad cI cJ u10.2.1 u10.2.2.1 u10.2.2.2.1 De u10.2.2.2.2.1 u10.2.2.2.2.2.1 u10.2.2.2.2.2.2.1 u10.2.2.2.2.2.2.2.1 u10.2.2.2.2.2.2.2.2 Ug (vp_updL Ur (0 : Int32).toNatClampNeg (0 : Int64)) u6.2 To Tt Td Go Gg Ga Be Bt Si Te Bz Bk) H := hP
                refine lv_iload hx hb dX6_set_156 (lv_at hl 0 rfl) ?_
                rw [hQ9]
                have hf : f_X6_set a0 a1 a2 a3 Th Ce Le De Ke Kc Ko Kl Kd Ug Ur Va = (u10.1, u10.2.1, u10.2.2.1, u10.2.2.2.1, u10.2.2.2.2.1, u10.2.2.2.2.2.1, u10.2.2.2.2.2.2.1, u10.2.2.2.2.2.2.2.1, u10.2.2.2.2.2.2.2.2, (vp_updL Ur (0 : Int32).toNatClampNeg (0 : Int64)), u6.2) := by simp only [f_X6_set, if_neg c1, if_neg c3, if_neg c4, ← hu6, ← hu10, if_pos c11, if_pos c12]
                exact W.iret (v := u10.1) hx hb hr (fun t ht hW => ⟨⟨u10.1, (), rfl, by rw [hf], by rw [hf]; show va_P (dC, dI) vwCl _ t.heap; rw [ht]; exact hP⟩, hS.F ht⟩) hS.2.2 dX6_set_158
          have hlp14 : ∀ (n : Nat) (x6v : Int32) (Vav : Nat → Int64) (H : Heap) (locs : List Loc) (ls : Array Slot), SL_X6_set_57 n x6v Vav a0 a2 Ug Ur → u6 = L_X6_set_57 n x6v Vav a0 a2 Ug Ur → va_P (dC, dI) vwCl (wM ad cI cJ (0 : Int32) Ce Le De Ke Kc Ko Kl Kd Ug Ur Vav To Tt Td Go Gg Ga Be Bt Si Te Bz Bk) H → va_S (fA 17 ad s.heap.size) s.heap H locs → lv_has ls 7 [(6, .int x6v), (0, .ref (ad 0)), (1, .int a0), (2, .int a1), (3, .long a2), (5, .int a3)] → W p l e (headSpec (mW yX6_set cX6_set 7 (some .int)) { frames := 4, cells := 0, slots := 0, locals := 92 }).room s m ([.ref (ad 0), .int a0, .int a1, .long a2, .int a3] : List Value).toArray below meth c H locs 0 0 Q9 (F0 m 57 ls []) := by
            intro n
            induction n with
            | zero => intro x6v Vav H locs ls hs; rw [SL_X6_set_57] at hs; exact hs.elim
            | succ n ih =>
              intro x6v Vav H locs ls hs hq15 hP hS hl
              rw [SL_X6_set_57] at hs
              refine lv_iload hx hb dX6_set_57 (lv_at hl 0 rfl) ?_
              refine lv_bipush (v := 21) hx hb dX6_set_59 (by decide) ?_
              refine lv_icmp_ge (tgt := 127) hx hb dX6_set_61 (by decide) (fun c16 => ?_) (fun c16 => ?_)
              · have hs := hs.1 c16
                have he17 : u6 = (x6v, Vav) := by rw [hq15, L_X6_set_57]; simp only [if_pos c16, ↓reduceIte]
                exact hex8 _ _ _ (by first | exact hP | (rw [he17]; exact hP)) hS (by first | exact lv_sub hl [0, 1, 2, 3, 4, 5] rfl | (rw [he17]; exact lv_sub hl [0, 1, 2, 3, 4, 5] rfl))
              · have hs := hs.2 c16
                refine lv_aload_n hx hb dX6_set_64 rfl (lv_at hl 1 rfl) ?_
                refine va_get (D := (dC, dI)) (ci := 8) (v := .ref (ad 9)) (C := RX6) (T := TX6) (N := 24) hx hb hts iW_X6 hown hK hP 0 rfl rfl 11 (by decide) (hts _ mF_RX6_35) (fun _ h9 => h9) rfl dX6_set_65 ?_
                refine lv_iload hx hb dX6_set_68 (lv_at hl 0 rfl) ?_
                refine lv_iload_n hx hb dX6_set_70 rfl (lv_at hl 2 rfl) ?_
                refine lv_iconst (v := 3) hx hb dX6_set_71 (by decide) ?_
                refine lv_icmp_ne (tgt := 85) hx hb dX6_set_72 (by decide) (fun c18 => ?_) (fun c18 => ?_)
                · have hs := hs.2 c18
                  refine lv_iload_n hx hb dX6_set_85 rfl (lv_at hl 2 rfl) ?_
                  refine lv_iconst (v := 2) hx hb dX6_set_86 (by decide) ?_
                  refine lv_icmp_ne (tgt := 110) hx hb dX6_set_87 (by decide) (fun c19 => ?_) (fun c19 => ?_)
                  · have hs := hs.2 c19
                    refine lv_iload hx hb dX6_set_110 (lv_at hl 0 rfl) ?_
                    refine lv_if_ne (tgt := 119) hx hb dX6_set_112 (by decide) (fun c20 => ?_) (fun c20 => ?_)
                    · have hs := hs.2 c20
                      refine lv_lconst (v := 0) hx hb dX6_set_119 (by decide) ?_
                      obtain ⟨h21, hs⟩ := hs
                      refine va_last hx hb hK hP (fA_D hi rfl) hS 9 1 rfl rfl h21 dX6_set_120 (fun H locs hP _ hS => ?_)
                      have hP : va_P (dC, dI) vwCl (wM ad cI cJ (0 : Int32) Ce Le De Ke Kc Ko Kl Kd Ug Ur (vp_updL Vav x6v.toNatClampNeg (0 : Int64)) To Tt Td Go Gg Ga Be Bt Si Te Bz Bk) H := hP
                      refine lv_iinc (v := (x6v + 1)) (lv' := [(6, .int (x6v + 1)), (0, .ref (ad 0)), (1, .int a0), (2, .int a1), (3, .long a2), (5, .int a3)]) hx hb dX6_set_121 hl (k := 0) rfl rfl (by decide) rfl (fun ls hl => ?_)
                      refine lv_goto (tgt := 57) hx hb dX6_set_124 (by decide) ?_
                      exact ih (x6v + 1) (vp_updL Vav x6v.toNatClampNeg (0 : Int64)) _ _ _ hs (by rw [hq15, L_X6_set_57]; simp only [if_neg c16, if_neg c18, if_neg c19, if_neg c20, ↓reduceIte]) hP hS (lv_sub hl [0, 1, 2, 3, 4, 5] rfl)
                    · have hs := hs.1 c20
                      refine lv_lload_n hx hb dX6_set_115 rfl (lv_at hl 4 rfl) ?_
                      refine lv_goto (tgt := 120) hx hb dX6_set_116 (by decide) ?_
                      obtain ⟨h22, hs⟩ := hs
                      refine va_last hx hb hK hP (fA_D hi rfl) hS 9 1 rfl rfl h22 dX6_set_120 (fun H locs hP _ hS => ?_)
                      have hP : va_P (dC, dI) vwCl (wM ad cI cJ (0 : Int32) Ce Le De Ke Kc Ko Kl Kd Ug Ur (vp_updL Vav x6v.toNatClampNeg a2) To Tt Td Go Gg Ga Be Bt Si Te Bz Bk) H := hP
                      refine lv_iinc (v := (x6v + 1)) (lv' := [(6, .int (x6v + 1)), (0, .ref (ad 0)), (1, .int a0), (2, .int a1), (3, .long a2), (5, .int a3)]) hx hb dX6_set_121 hl (k := 0) rfl rfl (by decide) rfl (fun ls hl => ?_)
                      refine lv_goto (tgt := 57) hx hb dX6_set_124 (by decide) ?_
                      exact ih (x6v + 1) (vp_updL Vav x6v.toNatClampNeg a2) _ _ _ hs (by rw [hq15, L_X6_set_57]; simp only [if_neg c16, if_neg c18, if_neg c19, if_pos c20, ↓reduceIte]) hP hS (lv_sub hl [0, 1, 2, 3, 4, 5] rfl)
                  · have hs := hs.1 c19
                    refine lv_iload hx hb dX6_set_90 (lv_at hl 0 rfl) ?_
                    refine lv_iconst (v := 5) hx hb dX6_set_92 (by decide) ?_
                    refine lv_icmp_ge (tgt := 106) hx hb dX6_set_93 (by decide) (fun c23 => ?_) (fun c23 => ?_)
                    · have hs := hs.1 c23
                      refine lv_lconst (v := 0) hx hb dX6_set_106 (by decide) ?_
                      refine lv_goto (tgt := 120) hx hb dX6_set_107 (by decide) ?_
                      obtain ⟨h24, hs⟩ := hs
                      refine va_last hx hb hK hP (fA_D hi rfl) hS 9 1 rfl rfl h24 dX6_set_120 (fun H locs hP _ hS => ?_)
                      have hP : va_P (dC, dI) vwCl (wM ad cI cJ (0 : Int32) Ce Le De Ke Kc Ko Kl Kd Ug Ur (vp_updL Vav x6v.toNatClampNeg (0 : Int64)) To Tt Td Go Gg Ga Be Bt Si Te Bz Bk) H := hP
                      refine lv_iinc (v := (x6v + 1)) (lv' := [(6, .int (x6v + 1)), (0, .ref (ad 0)), (1, .int a0), (2, .int a1), (3, .long a2), (5, .int a3)]) hx hb dX6_set_121 hl (k := 0) rfl rfl (by decide) rfl (fun ls hl => ?_)
                      refine lv_goto (tgt := 57) hx hb dX6_set_124 (by decide) ?_
                      exact ih (x6v + 1) (vp_updL Vav x6v.toNatClampNeg (0 : Int64)) _ _ _ hs (by rw [hq15, L_X6_set_57]; simp only [if_neg c16, if_neg c18, if_pos c19, if_pos c23, ↓reduceIte]) hP hS (lv_sub hl [0, 1, 2, 3, 4, 5] rfl)
                    · have hs := hs.2 c23
                      refine lv_aload_n hx hb dX6_set_96 rfl (lv_at hl 1 rfl) ?_
                      refine va_get (D := (dC, dI)) (ci := 8) (v := .ref (ad 7)) (C := RX6) (T := TX6) (N := 24) hx hb hts iW_X6 hown hK hP 0 rfl rfl 9 (by decide) (hts _ mF_RX6_29) (fun _ h9 => h9) rfl dX6_set_97 ?_
                      refine lv_iload hx hb dX6_set_100 (lv_at hl 0 rfl) ?_
                      obtain ⟨h25, hs⟩ := hs
                      refine va_lald hx hb hK hP 7 1 rfl rfl h25 dX6_set_102 ?_
                      refine lv_goto (tgt := 120) hx hb dX6_set_103 (by decide) ?_
                      obtain ⟨h26, hs⟩ := hs
                      refine va_last hx hb hK hP (fA_D hi rfl) hS 9 1 rfl rfl h26 dX6_set_120 (fun H locs hP _ hS => ?_)
                      have hP : va_P (dC, dI) vwCl (wM ad cI cJ (0 : Int32) Ce Le De Ke Kc Ko Kl Kd Ug Ur (vp_updL Vav x6v.toNatClampNeg (Ug x6v.toNatClampNeg)) To Tt Td Go Gg Ga Be Bt Si Te Bz Bk) H := hP
                      refine lv_iinc (v := (x6v + 1)) (lv' := [(6, .int (x6v + 1)), (0, .ref (ad 0)), (1, .int a0), (2, .int a1), (3, .long a2), (5, .int a3)]) hx hb dX6_set_121 hl (k := 0) rfl rfl (by decide) rfl (fun ls hl => ?_)
                      refine lv_goto (tgt := 57) hx hb dX6_set_124 (by decide) ?_
                      exact ih (x6v + 1) (vp_updL Vav x6v.toNatClampNeg (Ug x6v.toNatClampNeg)) _ _ _ hs (by rw [hq15, L_X6_set_57]; simp only [if_neg c16, if_neg c18, if_pos c19, if_neg c23, ↓reduceIte]) hP hS (lv_sub hl [0, 1, 2, 3, 4, 5] rfl)
                · have hs := hs.1 c18
                  refine lv_aload_n hx hb dX6_set_75 rfl (lv_at hl 1 rfl) ?_
                  refine va_get (D := (dC, dI)) (ci := 8) (v := .ref (ad 8)) (C := RX6) (T := TX6) (N := 24) hx hb hts iW_X6 hown hK hP 0 rfl rfl 10 (by decide) (hts _ mF_RX6_32) (fun _ h9 => h9) rfl dX6_set_76 ?_
                  refine lv_iload hx hb dX6_set_79 (lv_at hl 0 rfl) ?_
                  obtain ⟨h27, hs⟩ := hs
                  refine va_lald hx hb hK hP 8 1 rfl rfl h27 dX6_set_81 ?_
                  refine lv_goto (tgt := 120) hx hb dX6_set_82 (by decide) ?_
                  obtain ⟨h28, hs⟩ := hs
                  refine va_last hx hb hK hP (fA_D hi rfl) hS 9 1 rfl rfl h28 dX6_set_120 (fun H locs hP _ hS => ?_)
                  have hP : va_P (dC, dI) vwCl (wM ad cI cJ (0 : Int32) Ce Le De Ke Kc Ko Kl Kd Ug Ur (vp_updL Vav x6v.toNatClampNeg (Ur x6v.toNatClampNeg)) To Tt Td Go Gg Ga Be Bt Si Te Bz Bk) H := hP
                  refine lv_iinc (v := (x6v + 1)) (lv' := [(6, .int (x6v + 1)), (0, .ref (ad 0)), (1, .int a0), (2, .int a1), (3, .long a2), (5, .int a3)]) hx hb dX6_set_121 hl (k := 0) rfl rfl (by decide) rfl (fun ls hl => ?_)
                  refine lv_goto (tgt := 57) hx hb dX6_set_124 (by decide) ?_
                  exact ih (x6v + 1) (vp_updL Vav x6v.toNatClampNeg (Ur x6v.toNatClampNeg)) _ _ _ hs (by rw [hq15, L_X6_set_57]; simp only [if_neg c16, if_pos c18, ↓reduceIte]) hP hS (lv_sub hl [0, 1, 2, 3, 4, 5] rfl)
          exact hlp14 22 (0 : Int32) Va _ _ _ h7 hu6 hP hS (lv_sub hl [0, 1, 2, 3, 4, 5] rfl)
        · exact absurd (by decide) c5
      · have hs := hs.1 c4
        refine lv_iconst (v := 2) hx hb dX6_set_37 (by decide) ?_
        refine lv_goto (tgt := 42) hx hb dX6_set_38 (by decide) ?_
        refine va_put (D := (dC, dI)) (ci := 8) (v := .int (2 : Int32)) (ty := .int) (C := RX6) (T := TX6) (N := 24) hx hb hts iW_X6 tyX6 tyX6_ok nmX6 hown hK hP (fA_D hi rfl) hS 0 rfl rfl 0 (by decide) (hts _ mF_RX6_61) (fun _ h9 => h9) rfl (by decide +kernel) rfl rfl (Nat.le_of_ble_eq_true rfl) dX6_set_42 (fun H locs hP _ hS => ?_)
        have hP : va_P (dC, dI) vwCl (wM ad cI cJ (2 : Int32) Ce Le De Ke Kc Ko Kl Kd Ug Ur Va To Tt Td Go Gg Ga Be Bt Si Te Bz Bk) H := hP
        refine lv_aload_n hx hb dX6_set_45 rfl (lv_at hl 0 rfl) ?_
        refine va_get (D := (dC, dI)) (ci := 8) (v := .int (2 : Int32)) (C := RX6) (T := TX6) (N := 24) hx hb hts iW_X6 hown hK hP 0 rfl rfl 0 (by decide) (hts _ mF_RX6_61) (fun _ h9 => h9) rfl dX6_set_46 ?_
        refine lv_if_le (tgt := 54) hx hb dX6_set_49 (by decide) (fun c29 => ?_) (fun c29 => ?_)
        · exact absurd c29 (by decide)
        · refine lv_iconst (v := 0) hx hb dX6_set_52 (by decide) ?_
          rw [hQ9]
          have hf : f_X6_set a0 a1 a2 a3 Th Ce Le De Ke Kc Ko Kl Kd Ug Ur Va = ((0 : Int32), (2 : Int32), Ce, Le, Ke, Kc, Ko, Kl, Kd, Ur, Va) := by simp only [f_X6_set, if_neg c1, if_neg c3, if_pos c4]
          exact W.iret (v := (0 : Int32)) hx hb hr (fun t ht hW => ⟨⟨(0 : Int32), (), rfl, by rw [hf], by rw [hf]; show va_P (dC, dI) vwCl _ t.heap; rw [ht]; exact hP⟩, hS.F ht⟩) hS.2.2 dX6_set_53
    · have hs := hs.1 c3
      refine lv_lload_n hx hb dX6_set_13 rfl (lv_at hl 3 rfl) ?_
      refine lv_ldc2 hx hb hown (hts _ mK_RX6_59) dX6_set_14 ?_
      refine lv_ldc2 hx hb hown (hts _ mK_RX6_112) dX6_set_17 ?_
      refine q_X6_in hx hb hml hown hts mM_RX6_67 ⟨Nat.le_of_ble_eq_true rfl, Nat.le_of_ble_eq_true rfl⟩ ⟨Nat.le_of_ble_eq_true rfl, Nat.le_of_ble_eq_true rfl⟩ hl.1 (Nat.le_of_ble_eq_true rfl) hS dX6_set_20 hA a2 (-1 : Int64) (999 : Int64) (fun locs hS => ?_)
      refine lv_if_ne (tgt := 30) hx hb dX6_set_23 (by decide) (fun c30 => ?_) (fun c30 => ?_)
      · have hs := hs.2 c30
        refine lv_iload_n hx hb dX6_set_30 rfl (lv_at hl 2 rfl) ?_
        refine q_X6_isRegister hx hb hml hown hts mM_RX6_114 ⟨Nat.le_of_ble_eq_true rfl, Nat.le_of_ble_eq_true rfl⟩ ⟨Nat.le_of_ble_eq_true rfl, Nat.le_of_ble_eq_true rfl⟩ hl.1 (Nat.le_of_ble_eq_true rfl) hS dX6_set_31 hA a1 (fun locs hS => ?_)
        refine lv_if_ne (tgt := 41) hx hb dX6_set_34 (by decide) (fun c31 => ?_) (fun c31 => ?_)
        · have hs := hs.2 c31
          refine lv_iconst (v := 0) hx hb dX6_set_41 (by decide) ?_
          refine va_put (D := (dC, dI)) (ci := 8) (v := .int (0 : Int32)) (ty := .int) (C := RX6) (T := TX6) (N := 24) hx hb hts iW_X6 tyX6 tyX6_ok nmX6 hown hK hP (fA_D hi rfl) hS 0 rfl rfl 0 (by decide) (hts _ mF_RX6_61) (fun _ h9 => h9) rfl (by decide +kernel) rfl rfl (Nat.le_of_ble_eq_true rfl) dX6_set_42 (fun H locs hP _ hS => ?_)
          have hP : va_P (dC, dI) vwCl (wM ad cI cJ (0 : Int32) Ce Le De Ke Kc Ko Kl Kd Ug Ur Va To Tt Td Go Gg Ga Be Bt Si Te Bz Bk) H := hP
          refine lv_aload_n hx hb dX6_set_45 rfl (lv_at hl 0 rfl) ?_
          refine va_get (D := (dC, dI)) (ci := 8) (v := .int (0 : Int32)) (C := RX6) (T := TX6) (N := 24) hx hb hts iW_X6 hown hK hP 0 rfl rfl 0 (by decide) (hts _ mF_RX6_61) (fun _ h9 => h9) rfl dX6_set_46 ?_
          refine lv_if_le (tgt := 54) hx hb dX6_set_49 (by decide) (fun c32 => ?_) (fun c32 => ?_)
          · refine lv_iconst (v := 0) hx hb dX6_set_54 (by decide) ?_
            refine lv_istore (lv' := [(6, .int (0 : Int32)), (0, .ref (ad 0)), (1, .int a0), (2, .int a1), (3, .long a2), (5, .int a3)]) hx hb dX6_set_55 hl (by decide) rfl (fun ls hl => ?_)
            obtain ⟨h34, hs⟩ := hs
            obtain ⟨u33, hu33⟩ : ∃ z, z = L_X6_set_57 22 (0 : Int32) Va a0 a2 Ug Ur := ⟨_, rfl⟩
            have hs := hs u33 hu33
            have hex35 : ∀ (H : Heap) (locs : List Loc) (ls : Array Slot), va_P (dC, dI) vwCl (wM ad cI cJ (0 : Int32) Ce Le De Ke Kc Ko Kl Kd Ug Ur u33.2 To Tt Td Go Gg Ga Be Bt Si Te Bz Bk) H → va_S (fA 17 ad s.heap.size) s.heap H locs → lv_has ls 7 [(6, .int u33.1), (0, .ref (ad 0)), (1, .int a0), (2, .int a1), (3, .long a2), (5, .int a3)] → W p l e (headSpec (mW yX6_set cX6_set 7 (some .int)) { frames := 4, cells := 0, slots := 0, locals := 92 }).room s m ([.ref (ad 0), .int a0, .int a1, .long a2, .int a3] : List Value).toArray below meth c H locs 0 0 Q9 (F0 m 127 ls []) := by
              intro H locs ls hP hS hl
              refine lv_aload_n hx hb dX6_set_127 rfl (lv_at hl 1 rfl) ?_
              refine lv_iload_n hx hb dX6_set_128 rfl (lv_at hl 2 rfl) ?_
              refine lv_iload_n hx hb dX6_set_129 rfl (lv_at hl 3 rfl) ?_
              refine lv_iload hx hb dX6_set_130 (lv_at hl 5 rfl) ?_
              refine lv_iconst (v := 3) hx hb dX6_set_132 (by decide) ?_
              obtain ⟨h36, hs⟩ := hs
              obtain ⟨u37, hu37⟩ : ∃ z, z = f_X6_finish a0 a1 a3 (3 : Int32) (0 : Int32) Ce Le De Ke Kc Ko Kl Kd u33.2 := ⟨_, rfl⟩
              have hs := hs u37 hu37
              refine q_X6_finish hx hb hml hown hts mM_RX6_117 ⟨Nat.le_of_ble_eq_true rfl, Nat.le_of_ble_eq_true rfl⟩ ⟨Nat.le_of_ble_eq_true rfl, Nat.le_of_ble_eq_true rfl⟩ hl.1 (Nat.le_of_ble_eq_true rfl) hS dX6_set_133 (fun _ h9 => fA_mono hS.1 h9) hi hK hP a0 a1 a3 (3 : Int32) h36 u37 hu37 (fun H locs hP hS => ?_)
              refine lv_istore (lv' := [(6, .int u37.1), (0, .ref (ad 0)), (1, .int a0), (2, .int a1), (3, .long a2), (5, .int a3)]) hx hb dX6_set_136 hl (by decide) rfl (fun ls hl => ?_)
              refine lv_iload hx hb dX6_set_138 (lv_at hl 0 rfl) ?_
              refine lv_iconst (v := 1) hx hb dX6_set_140 (by decide) ?_
              refine lv_icmp_ne (tgt := 156) hx hb dX6_set_141 (by decide) (fun c38 => ?_) (fun c38 => ?_)
              · have hs := hs.2 c38
                refine lv_iload hx hb dX6_set_156 (lv_at hl 0 rfl) ?_
                rw [hQ9]
                have hf : f_X6_set a0 a1 a2 a3 Th Ce Le De Ke Kc Ko Kl Kd Ug Ur Va = (u37.1, u37.2.1, u37.2.2.1, u37.2.2.2.1, u37.2.2.2.2.1, u37.2.2.2.2.2.1, u37.2.2.2.2.2.2.1, u37.2.2.2.2.2.2.2.1, u37.2.2.2.2.2.2.2.2, Ur, u33.2) := by simp only [f_X6_set, if_neg c1, if_pos c3, if_neg c30, if_neg c31, ← hu33, ← hu37, if_neg c38]
                exact W.iret (v := u37.1) hx hb hr (fun t ht hW => ⟨⟨u37.1, (), rfl, by rw [hf], by rw [hf]; show va_P (dC, dI) vwCl _ t.heap; rw [ht]; exact hP⟩, hS.F ht⟩) hS.2.2 dX6_set_158
              · have hs := hs.1 c38
                refine lv_iload_n hx hb dX6_set_144 rfl (lv_at hl 2 rfl) ?_
                refine lv_iconst (v := 3) hx hb dX6_set_145 (by decide) ?_
                refine lv_icmp_ne (tgt := 156) hx hb dX6_set_146 (by decide) (fun c39 => ?_) (fun c39 => ?_)
                · have hs := hs.2 c39
                  refine lv_iload hx hb dX6_set_156 (lv_at hl 0 rfl) ?_
                  rw [hQ9]
                  have hf : f_X6_set a0 a1 a2 a3 Th Ce Le De Ke Kc Ko Kl Kd Ug Ur Va = (u37.1, u37.2.1, u37.2.2.1, u37.2.2.2.1, u37.2.2.2.2.1, u37.2.2.2.2.2.1, u37.2.2.2.2.2.2.1, u37.2.2.2.2.2.2.2.1, u37.2.2.2.2.2.2.2.2, Ur, u33.2) := by simp only [f_X6_set, if_neg c1, if_pos c3, if_neg c30, if_neg c31, ← hu33, ← hu37, if_pos c38, if_neg c39]
                  exact W.iret (v := u37.1) hx hb hr (fun t ht hW => ⟨⟨u37.1, (), rfl, by rw [hf], by rw [hf]; show va_P (dC, dI) vwCl _ t.heap; rw [ht]; exact hP⟩, hS.F ht⟩) hS.2.2 dX6_set_158
                · have hs := hs.1 c39
                  refine lv_aload_n hx hb dX6_set_149 rfl (lv_at hl 1 rfl) ?_
                  refine va_get (D := (dC, dI)) (ci := 8) (v := .ref (ad 8)) (C := RX6) (T := TX6) (N := 24) hx hb hts iW_X6 hown hK hP 0 rfl rfl 10 (by decide) (hts _ mF_RX6_32) (fun _ h9 => h9) rfl dX6_set_150 ?_
                  refine lv_iconst (v := 0) hx hb dX6_set_153 (by decide) ?_
                  refine lv_lconst (v := 0) hx hb dX6_set_154 (by decide) ?_
                  obtain ⟨h40, hs⟩ := hs
                  refine va_last hx hb hK hP (fA_D hi rfl) hS 8 1 rfl rfl h40 dX6_set_155 (fun H locs hP _ hS => ?_)
                  have hP : va_P (dC, dI) vwCl (wM ad cI cJ u37.2.1 u37.2.2.1 u37.2.2.2.1 De u37.2.2.2.2.1 u37.2.2.2.2.2.1 u37.2.2.2.2.2.2.1 u37.2.2.2.2.2.2.2.1 u37.2.2.2.2.2.2.2.2 Ug (vp_updL Ur (0 : Int32).toNatClampNeg (0 : Int64)) u33.2 To Tt Td Go Gg Ga Be Bt Si Te Bz Bk) H := hP
                  refine lv_iload hx hb dX6_set_156 (lv_at hl 0 rfl) ?_
                  rw [hQ9]
                  have hf : f_X6_set a0 a1 a2 a3 Th Ce Le De Ke Kc Ko Kl Kd Ug Ur Va = (u37.1, u37.2.1, u37.2.2.1, u37.2.2.2.1, u37.2.2.2.2.1, u37.2.2.2.2.2.1, u37.2.2.2.2.2.2.1, u37.2.2.2.2.2.2.2.1, u37.2.2.2.2.2.2.2.2, (vp_updL Ur (0 : Int32).toNatClampNeg (0 : Int64)), u33.2) := by simp only [f_X6_set, if_neg c1, if_pos c3, if_neg c30, if_neg c31, ← hu33, ← hu37, if_pos c38, if_pos c39]
                  exact W.iret (v := u37.1) hx hb hr (fun t ht hW => ⟨⟨u37.1, (), rfl, by rw [hf], by rw [hf]; show va_P (dC, dI) vwCl _ t.heap; rw [ht]; exact hP⟩, hS.F ht⟩) hS.2.2 dX6_set_158
            have hlp41 : ∀ (n : Nat) (x6v : Int32) (Vav : Nat → Int64) (H : Heap) (locs : List Loc) (ls : Array Slot), SL_X6_set_57 n x6v Vav a0 a2 Ug Ur → u33 = L_X6_set_57 n x6v Vav a0 a2 Ug Ur → va_P (dC, dI) vwCl (wM ad cI cJ (0 : Int32) Ce Le De Ke Kc Ko Kl Kd Ug Ur Vav To Tt Td Go Gg Ga Be Bt Si Te Bz Bk) H → va_S (fA 17 ad s.heap.size) s.heap H locs → lv_has ls 7 [(6, .int x6v), (0, .ref (ad 0)), (1, .int a0), (2, .int a1), (3, .long a2), (5, .int a3)] → W p l e (headSpec (mW yX6_set cX6_set 7 (some .int)) { frames := 4, cells := 0, slots := 0, locals := 92 }).room s m ([.ref (ad 0), .int a0, .int a1, .long a2, .int a3] : List Value).toArray below meth c H locs 0 0 Q9 (F0 m 57 ls []) := by
              intro n
              induction n with
              | zero => intro x6v Vav H locs ls hs; rw [SL_X6_set_57] at hs; exact hs.elim
              | succ n ih =>
                intro x6v Vav H locs ls hs hq42 hP hS hl
                rw [SL_X6_set_57] at hs
                refine lv_iload hx hb dX6_set_57 (lv_at hl 0 rfl) ?_
                refine lv_bipush (v := 21) hx hb dX6_set_59 (by decide) ?_
                refine lv_icmp_ge (tgt := 127) hx hb dX6_set_61 (by decide) (fun c43 => ?_) (fun c43 => ?_)
                · have hs := hs.1 c43
                  have he44 : u33 = (x6v, Vav) := by rw [hq42, L_X6_set_57]; simp only [if_pos c43, ↓reduceIte]
                  exact hex35 _ _ _ (by first | exact hP | (rw [he44]; exact hP)) hS (by first | exact lv_sub hl [0, 1, 2, 3, 4, 5] rfl | (rw [he44]; exact lv_sub hl [0, 1, 2, 3, 4, 5] rfl))
                · have hs := hs.2 c43
                  refine lv_aload_n hx hb dX6_set_64 rfl (lv_at hl 1 rfl) ?_
                  refine va_get (D := (dC, dI)) (ci := 8) (v := .ref (ad 9)) (C := RX6) (T := TX6) (N := 24) hx hb hts iW_X6 hown hK hP 0 rfl rfl 11 (by decide) (hts _ mF_RX6_35) (fun _ h9 => h9) rfl dX6_set_65 ?_
                  refine lv_iload hx hb dX6_set_68 (lv_at hl 0 rfl) ?_
                  refine lv_iload_n hx hb dX6_set_70 rfl (lv_at hl 2 rfl) ?_
                  refine lv_iconst (v := 3) hx hb dX6_set_71 (by decide) ?_
                  refine lv_icmp_ne (tgt := 85) hx hb dX6_set_72 (by decide) (fun c45 => ?_) (fun c45 => ?_)
                  · have hs := hs.2 c45
                    refine lv_iload_n hx hb dX6_set_85 rfl (lv_at hl 2 rfl) ?_
                    refine lv_iconst (v := 2) hx hb dX6_set_86 (by decide) ?_
                    refine lv_icmp_ne (tgt := 110) hx hb dX6_set_87 (by decide) (fun c46 => ?_) (fun c46 => ?_)
                    · have hs := hs.2 c46
                      refine lv_iload hx hb dX6_set_110 (lv_at hl 0 rfl) ?_
                      refine lv_if_ne (tgt := 119) hx hb dX6_set_112 (by decide) (fun c47 => ?_) (fun c47 => ?_)
                      · have hs := hs.2 c47
                        refine lv_lconst (v := 0) hx hb dX6_set_119 (by decide) ?_
                        obtain ⟨h48, hs⟩ := hs
                        refine va_last hx hb hK hP (fA_D hi rfl) hS 9 1 rfl rfl h48 dX6_set_120 (fun H locs hP _ hS => ?_)
                        have hP : va_P (dC, dI) vwCl (wM ad cI cJ (0 : Int32) Ce Le De Ke Kc Ko Kl Kd Ug Ur (vp_updL Vav x6v.toNatClampNeg (0 : Int64)) To Tt Td Go Gg Ga Be Bt Si Te Bz Bk) H := hP
                        refine lv_iinc (v := (x6v + 1)) (lv' := [(6, .int (x6v + 1)), (0, .ref (ad 0)), (1, .int a0), (2, .int a1), (3, .long a2), (5, .int a3)]) hx hb dX6_set_121 hl (k := 0) rfl rfl (by decide) rfl (fun ls hl => ?_)
                        refine lv_goto (tgt := 57) hx hb dX6_set_124 (by decide) ?_
                        exact ih (x6v + 1) (vp_updL Vav x6v.toNatClampNeg (0 : Int64)) _ _ _ hs (by rw [hq42, L_X6_set_57]; simp only [if_neg c43, if_neg c45, if_neg c46, if_neg c47, ↓reduceIte]) hP hS (lv_sub hl [0, 1, 2, 3, 4, 5] rfl)
                      · have hs := hs.1 c47
                        refine lv_lload_n hx hb dX6_set_115 rfl (lv_at hl 4 rfl) ?_
                        refine lv_goto (tgt := 120) hx hb dX6_set_116 (by decide) ?_
                        obtain ⟨h49, hs⟩ := hs
                        refine va_last hx hb hK hP (fA_D hi rfl) hS 9 1 rfl rfl h49 dX6_set_120 (fun H locs hP _ hS => ?_)
                        have hP : va_P (dC, dI) vwCl (wM ad cI cJ (0 : Int32) Ce Le De Ke Kc Ko Kl Kd Ug Ur (vp_updL Vav x6v.toNatClampNeg a2) To Tt Td Go Gg Ga Be Bt Si Te Bz Bk) H := hP
                        refine lv_iinc (v := (x6v + 1)) (lv' := [(6, .int (x6v + 1)), (0, .ref (ad 0)), (1, .int a0), (2, .int a1), (3, .long a2), (5, .int a3)]) hx hb dX6_set_121 hl (k := 0) rfl rfl (by decide) rfl (fun ls hl => ?_)
                        refine lv_goto (tgt := 57) hx hb dX6_set_124 (by decide) ?_
                        exact ih (x6v + 1) (vp_updL Vav x6v.toNatClampNeg a2) _ _ _ hs (by rw [hq42, L_X6_set_57]; simp only [if_neg c43, if_neg c45, if_neg c46, if_pos c47, ↓reduceIte]) hP hS (lv_sub hl [0, 1, 2, 3, 4, 5] rfl)
                    · have hs := hs.1 c46
                      refine lv_iload hx hb dX6_set_90 (lv_at hl 0 rfl) ?_
                      refine lv_iconst (v := 5) hx hb dX6_set_92 (by decide) ?_
                      refine lv_icmp_ge (tgt := 106) hx hb dX6_set_93 (by decide) (fun c50 => ?_) (fun c50 => ?_)
                      · have hs := hs.1 c50
                        refine lv_lconst (v := 0) hx hb dX6_set_106 (by decide) ?_
                        refine lv_goto (tgt := 120) hx hb dX6_set_107 (by decide) ?_
                        obtain ⟨h51, hs⟩ := hs
                        refine va_last hx hb hK hP (fA_D hi rfl) hS 9 1 rfl rfl h51 dX6_set_120 (fun H locs hP _ hS => ?_)
                        have hP : va_P (dC, dI) vwCl (wM ad cI cJ (0 : Int32) Ce Le De Ke Kc Ko Kl Kd Ug Ur (vp_updL Vav x6v.toNatClampNeg (0 : Int64)) To Tt Td Go Gg Ga Be Bt Si Te Bz Bk) H := hP
                        refine lv_iinc (v := (x6v + 1)) (lv' := [(6, .int (x6v + 1)), (0, .ref (ad 0)), (1, .int a0), (2, .int a1), (3, .long a2), (5, .int a3)]) hx hb dX6_set_121 hl (k := 0) rfl rfl (by decide) rfl (fun ls hl => ?_)
                        refine lv_goto (tgt := 57) hx hb dX6_set_124 (by decide) ?_
                        exact ih (x6v + 1) (vp_updL Vav x6v.toNatClampNeg (0 : Int64)) _ _ _ hs (by rw [hq42, L_X6_set_57]; simp only [if_neg c43, if_neg c45, if_pos c46, if_pos c50, ↓reduceIte]) hP hS (lv_sub hl [0, 1, 2, 3, 4, 5] rfl)
                      · have hs := hs.2 c50
                        refine lv_aload_n hx hb dX6_set_96 rfl (lv_at hl 1 rfl) ?_
                        refine va_get (D := (dC, dI)) (ci := 8) (v := .ref (ad 7)) (C := RX6) (T := TX6) (N := 24) hx hb hts iW_X6 hown hK hP 0 rfl rfl 9 (by decide) (hts _ mF_RX6_29) (fun _ h9 => h9) rfl dX6_set_97 ?_
                        refine lv_iload hx hb dX6_set_100 (lv_at hl 0 rfl) ?_
                        obtain ⟨h52, hs⟩ := hs
                        refine va_lald hx hb hK hP 7 1 rfl rfl h52 dX6_set_102 ?_
                        refine lv_goto (tgt := 120) hx hb dX6_set_103 (by decide) ?_
                        obtain ⟨h53, hs⟩ := hs
                        refine va_last hx hb hK hP (fA_D hi rfl) hS 9 1 rfl rfl h53 dX6_set_120 (fun H locs hP _ hS => ?_)
                        have hP : va_P (dC, dI) vwCl (wM ad cI cJ (0 : Int32) Ce Le De Ke Kc Ko Kl Kd Ug Ur (vp_updL Vav x6v.toNatClampNeg (Ug x6v.toNatClampNeg)) To Tt Td Go Gg Ga Be Bt Si Te Bz Bk) H := hP
                        refine lv_iinc (v := (x6v + 1)) (lv' := [(6, .int (x6v + 1)), (0, .ref (ad 0)), (1, .int a0), (2, .int a1), (3, .long a2), (5, .int a3)]) hx hb dX6_set_121 hl (k := 0) rfl rfl (by decide) rfl (fun ls hl => ?_)
                        refine lv_goto (tgt := 57) hx hb dX6_set_124 (by decide) ?_
                        exact ih (x6v + 1) (vp_updL Vav x6v.toNatClampNeg (Ug x6v.toNatClampNeg)) _ _ _ hs (by rw [hq42, L_X6_set_57]; simp only [if_neg c43, if_neg c45, if_pos c46, if_neg c50, ↓reduceIte]) hP hS (lv_sub hl [0, 1, 2, 3, 4, 5] rfl)
                  · have hs := hs.1 c45
                    refine lv_aload_n hx hb dX6_set_75 rfl (lv_at hl 1 rfl) ?_
                    refine va_get (D := (dC, dI)) (ci := 8) (v := .ref (ad 8)) (C := RX6) (T := TX6) (N := 24) hx hb hts iW_X6 hown hK hP 0 rfl rfl 10 (by decide) (hts _ mF_RX6_32) (fun _ h9 => h9) rfl dX6_set_76 ?_
                    refine lv_iload hx hb dX6_set_79 (lv_at hl 0 rfl) ?_
                    obtain ⟨h54, hs⟩ := hs
                    refine va_lald hx hb hK hP 8 1 rfl rfl h54 dX6_set_81 ?_
                    refine lv_goto (tgt := 120) hx hb dX6_set_82 (by decide) ?_
                    obtain ⟨h55, hs⟩ := hs
                    refine va_last hx hb hK hP (fA_D hi rfl) hS 9 1 rfl rfl h55 dX6_set_120 (fun H locs hP _ hS => ?_)
                    have hP : va_P (dC, dI) vwCl (wM ad cI cJ (0 : Int32) Ce Le De Ke Kc Ko Kl Kd Ug Ur (vp_updL Vav x6v.toNatClampNeg (Ur x6v.toNatClampNeg)) To Tt Td Go Gg Ga Be Bt Si Te Bz Bk) H := hP
                    refine lv_iinc (v := (x6v + 1)) (lv' := [(6, .int (x6v + 1)), (0, .ref (ad 0)), (1, .int a0), (2, .int a1), (3, .long a2), (5, .int a3)]) hx hb dX6_set_121 hl (k := 0) rfl rfl (by decide) rfl (fun ls hl => ?_)
                    refine lv_goto (tgt := 57) hx hb dX6_set_124 (by decide) ?_
                    exact ih (x6v + 1) (vp_updL Vav x6v.toNatClampNeg (Ur x6v.toNatClampNeg)) _ _ _ hs (by rw [hq42, L_X6_set_57]; simp only [if_neg c43, if_pos c45, ↓reduceIte]) hP hS (lv_sub hl [0, 1, 2, 3, 4, 5] rfl)
            exact hlp41 22 (0 : Int32) Va _ _ _ h34 hu33 hP hS (lv_sub hl [0, 1, 2, 3, 4, 5] rfl)
          · exact absurd (by decide) c32
        · have hs := hs.1 c31
          refine lv_iconst (v := 2) hx hb dX6_set_37 (by decide) ?_
          refine lv_goto (tgt := 42) hx hb dX6_set_38 (by decide) ?_
          refine va_put (D := (dC, dI)) (ci := 8) (v := .int (2 : Int32)) (ty := .int) (C := RX6) (T := TX6) (N := 24) hx hb hts iW_X6 tyX6 tyX6_ok nmX6 hown hK hP (fA_D hi rfl) hS 0 rfl rfl 0 (by decide) (hts _ mF_RX6_61) (fun _ h9 => h9) rfl (by decide +kernel) rfl rfl (Nat.le_of_ble_eq_true rfl) dX6_set_42 (fun H locs hP _ hS => ?_)
          have hP : va_P (dC, dI) vwCl (wM ad cI cJ (2 : Int32) Ce Le De Ke Kc Ko Kl Kd Ug Ur Va To Tt Td Go Gg Ga Be Bt Si Te Bz Bk) H := hP
          refine lv_aload_n hx hb dX6_set_45 rfl (lv_at hl 0 rfl) ?_
          refine va_get (D := (dC, dI)) (ci := 8) (v := .int (2 : Int32)) (C := RX6) (T := TX6) (N := 24) hx hb hts iW_X6 hown hK hP 0 rfl rfl 0 (by decide) (hts _ mF_RX6_61) (fun _ h9 => h9) rfl dX6_set_46 ?_
          refine lv_if_le (tgt := 54) hx hb dX6_set_49 (by decide) (fun c56 => ?_) (fun c56 => ?_)
          · exact absurd c56 (by decide)
          · refine lv_iconst (v := 0) hx hb dX6_set_52 (by decide) ?_
            rw [hQ9]
            have hf : f_X6_set a0 a1 a2 a3 Th Ce Le De Ke Kc Ko Kl Kd Ug Ur Va = ((0 : Int32), (2 : Int32), Ce, Le, Ke, Kc, Ko, Kl, Kd, Ur, Va) := by simp only [f_X6_set, if_neg c1, if_pos c3, if_neg c30, if_pos c31]
            exact W.iret (v := (0 : Int32)) hx hb hr (fun t ht hW => ⟨⟨(0 : Int32), (), rfl, by rw [hf], by rw [hf]; show va_P (dC, dI) vwCl _ t.heap; rw [ht]; exact hP⟩, hS.F ht⟩) hS.2.2 dX6_set_53
      · have hs := hs.1 c30
        refine lv_iconst (v := 1) hx hb dX6_set_26 (by decide) ?_
        refine lv_goto (tgt := 42) hx hb dX6_set_27 (by decide) ?_
        refine va_put (D := (dC, dI)) (ci := 8) (v := .int (1 : Int32)) (ty := .int) (C := RX6) (T := TX6) (N := 24) hx hb hts iW_X6 tyX6 tyX6_ok nmX6 hown hK hP (fA_D hi rfl) hS 0 rfl rfl 0 (by decide) (hts _ mF_RX6_61) (fun _ h9 => h9) rfl (by decide +kernel) rfl rfl (Nat.le_of_ble_eq_true rfl) dX6_set_42 (fun H locs hP _ hS => ?_)
        have hP : va_P (dC, dI) vwCl (wM ad cI cJ (1 : Int32) Ce Le De Ke Kc Ko Kl Kd Ug Ur Va To Tt Td Go Gg Ga Be Bt Si Te Bz Bk) H := hP
        refine lv_aload_n hx hb dX6_set_45 rfl (lv_at hl 0 rfl) ?_
        refine va_get (D := (dC, dI)) (ci := 8) (v := .int (1 : Int32)) (C := RX6) (T := TX6) (N := 24) hx hb hts iW_X6 hown hK hP 0 rfl rfl 0 (by decide) (hts _ mF_RX6_61) (fun _ h9 => h9) rfl dX6_set_46 ?_
        refine lv_if_le (tgt := 54) hx hb dX6_set_49 (by decide) (fun c57 => ?_) (fun c57 => ?_)
        · exact absurd c57 (by decide)
        · refine lv_iconst (v := 0) hx hb dX6_set_52 (by decide) ?_
          rw [hQ9]
          have hf : f_X6_set a0 a1 a2 a3 Th Ce Le De Ke Kc Ko Kl Kd Ug Ur Va = ((0 : Int32), (1 : Int32), Ce, Le, Ke, Kc, Ko, Kl, Kd, Ur, Va) := by simp only [f_X6_set, if_neg c1, if_pos c3, if_pos c30]
          exact W.iret (v := (0 : Int32)) hx hb hr (fun t ht hW => ⟨⟨(0 : Int32), (), rfl, by rw [hf], by rw [hf]; show va_P (dC, dI) vwCl _ t.heap; rw [ht]; exact hP⟩, hS.F ht⟩) hS.2.2 dX6_set_53
theorem q_X6_set {p : Program} {l : Launch} {e : Env} {R : Room} {s : State} {m : MethodId} {args : Array Value} {below : List Frame} {meth : Method} {c : Code} {H : Heap} {locs : List Loc} {cells slots : Nat} {Q : State → Prop} {pc : Nat} {ls : Array Slot} {rest : List Value} {cc : ByteArray} {nL idx : Nat} {own : String} {A0 : Nat → Prop} {dC : Nat → ClassId} {dI : Nat → Nat → Nat} {cI cJ : ClassId} {ad : Nat → Nat} {Th : Int32} {Ce : Nat → Int64} {Le : Nat → Int32} {De : Int32} {Ke : Int32} {Kc : Nat → Int64} {Ko : Nat → Int32} {Kl : Nat → Int32} {Kd : Nat → Int32} {Ug : Nat → Int64} {Ur : Nat → Int64} {Va : Nat → Int64} {To : Int32} {Tt : Nat → Int32} {Td : Nat → Int32} {Go : Int32} {Gg : Nat → Int32} {Ga : Nat → Int32} {Be : Int32} {Bt : Nat → Int32} {Si : Int32} {Te : Nat → Int32} {Bz : Int32} {Bk : Nat → Int32} (hx : p.tables.exec = Jvm.exec) (hb : c.code = cc) (hml : c.maxLocals = nL) (hown : s.vm.findClass own = some m.cls) (hts : ∀ w ∈ bigW, w.before args s = true) (hlk : Cond.methodLink own idx yX6_set ∈ bigW) (hR : 5 ≤ R.frames ∧ 118 ≤ R.locals) (hf : cells + 0 ≤ R.cells ∧ slots + 0 ≤ R.slots) (hz : ls.size = nL) (hw : (rest.map fun v => v.category).sum ≤ 8) (hS : va_S A0 s.heap H locs) (hd : decode cc pc = .ok (.invokevirtual idx, 3)) (hA : ∀ q, fA 17 ad H.size q → A0 q) (hi : fI 17 ad) (hK : va_K (dC, dI) vwCl [(cI, .int), (cJ, .long)] s) (hP : va_P (dC, dI) vwCl (wM ad cI cJ Th Ce Le De Ke Kc Ko Kl Kd Ug Ur Va To Tt Td Go Gg Ga Be Bt Si Te Bz Bk) H) (a0 : Int32) (a1 : Int32) (a2 : Int64) (a3 : Int32) (hs : S_X6_set a0 a1 a2 a3 Th Ce Le De Ke Kc Ko Kl Kd Ug Ur Va)  (u : Int32 × Int32 × (Nat → Int64) × (Nat → Int32) × Int32 × (Nat → Int64) × (Nat → Int32) × (Nat → Int32) × (Nat → Int32) × (Nat → Int64) × (Nat → Int64)) (hu : u = f_X6_set a0 a1 a2 a3 Th Ce Le De Ke Kc Ko Kl Kd Ug Ur Va) (k : ∀ (H1 : Heap) (locs1 : List Loc), va_P (dC, dI) vwCl (wM ad cI cJ u.2.1 u.2.2.1 u.2.2.2.1 De u.2.2.2.2.1 u.2.2.2.2.2.1 u.2.2.2.2.2.2.1 u.2.2.2.2.2.2.2.1 u.2.2.2.2.2.2.2.2.1 Ug u.2.2.2.2.2.2.2.2.2.1 u.2.2.2.2.2.2.2.2.2.2 To Tt Td Go Gg Ga Be Bt Si Te Bz Bk) H1 → va_S A0 s.heap H1 locs1 → W p l e R s m args below meth c H1 locs1 (cells + 0) (slots + 0) Q (F0 m (pc + 3) ls (.int u.1 :: rest))) : W p l e R s m args below meth c H locs cells slots Q (F0 m pc ls (.int a3 :: .long a2 :: .int a1 :: .int a0 :: .ref (ad 0) :: rest)) := by
  subst hu
  exact va_calli (va_runV (As := [.int a0, .int a1, .long a2, .int a3]) (rest := rest) ⟨hx, hb, hml, hown, hts⟩ (c_X6_set l dC dI cI cJ ad hi H.size Th Ce Le De Ke Kc Ko Kl Kd Ug Ur Va To Tt Td Go Gg Ga Be Bt Si Te Bz Bk a0 a1 a2 a3 hs) (kV 4 hts hlk mI_X6_set mN_RX6 mY_X6_set mV_X6_set rfl rfl (by decide +kernel) hR) ⟨fun a U g mk q => ⟨q.1, q.2.1, q.2.2.1, va_K.moved (u := U) (U := U.calling g mk a) (Vm.Alike.refl U.vm) q.2.2.2⟩, va_recv hK hP (ci := 8) (q0 := 0) rfl rfl, fun U hU hW => ⟨rfl, by rw [hU], by rw [hU]; exact hP, va_K.moved hW.alike hK⟩⟩ rfl rfl hz rfl (lv_room hw) hd hf) hS (fun q _ h => hA q h) (fun q h => hA q h) (fun r u t H1 locs1 ht hvm hw9 hB hz1 hk1 hS1 => by
    subst hw9
    exact k H1 locs1 (by rw [← ht]; exact hB) hS1)
theorem qf_X6_set {p : Program} {l : Launch} {e : Env} {R : Room} {s : State} {m : MethodId} {args : Array Value} {below : List Frame} {meth : Method} {c : Code} {H : Heap} {locs : List Loc} {cells slots : Nat} {Q : State → Prop} {pc : Nat} {ls : Array Slot} {rest : List Value} {cc : ByteArray} {nL idx : Nat} {own : String} {A0 : Nat → Prop} {dC : Nat → ClassId} {dI : Nat → Nat → Nat} {cI cJ : ClassId} {ad : Nat → Nat} {Th : Int32} {Ce : Nat → Int64} {Le : Nat → Int32} {De : Int32} {Ke : Int32} {Kc : Nat → Int64} {Ko : Nat → Int32} {Kl : Nat → Int32} {Kd : Nat → Int32} {Ug : Nat → Int64} {Ur : Nat → Int64} {Va : Nat → Int64} {To : Int32} {Tt : Nat → Int32} {Td : Nat → Int32} {Go : Int32} {Gg : Nat → Int32} {Ga : Nat → Int32} {Be : Int32} {Bt : Nat → Int32} {Si : Int32} {Te : Nat → Int32} {Bz : Int32} {Bk : Nat → Int32} (hx : p.tables.exec = Jvm.exec) (hb : c.code = cc) (hml : c.maxLocals = nL) (hown : s.vm.findClass own = some m.cls) (hts : ∀ w ∈ bigW, w.before args s = true) (hlk : Cond.methodLink own idx yX6_set ∈ bigW) (hR : 5 ≤ R.frames ∧ 118 ≤ R.locals) (hf : cells + 0 ≤ R.cells ∧ slots + 0 ≤ R.slots) (hz : ls.size = nL) (hw : (rest.map fun v => v.category).sum ≤ 8) (hS : va_S A0 s.heap H locs) (hd : decode cc pc = .ok (.invokevirtual idx, 3)) (hA : ∀ q, fA 17 ad H.size q → A0 q) (hi : fI 17 ad) (hK : va_K (dC, dI) vwCl [(cI, .int), (cJ, .long)] s) (hP : va_P (dC, dI) vwCl (wM ad cI cJ Th Ce Le De Ke Kc Ko Kl Kd Ug Ur Va To Tt Td Go Gg Ga Be Bt Si Te Bz Bk) H) (a0 : Int32) (a1 : Int32) (a2 : Int64) (a3 : Int32) (hs : S_X6_set a0 a1 a2 a3 Th Ce Le De Ke Kc Ko Kl Kd Ug Ur Va)  (u : Int32 × Int32 × (Nat → Int64) × (Nat → Int32) × Int32 × (Nat → Int64) × (Nat → Int32) × (Nat → Int32) × (Nat → Int32) × (Nat → Int64) × (Nat → Int64)) (hu : u = f_X6_set a0 a1 a2 a3 Th Ce Le De Ke Kc Ko Kl Kd Ug Ur Va) (k : ∀ (H1 : Heap) (locs1 : List Loc), va_P (dC, dI) vwCl (wM ad cI cJ u.2.1 u.2.2.1 u.2.2.2.1 De u.2.2.2.2.1 u.2.2.2.2.2.1 u.2.2.2.2.2.2.1 u.2.2.2.2.2.2.2.1 u.2.2.2.2.2.2.2.2.1 Ug u.2.2.2.2.2.2.2.2.2.1 u.2.2.2.2.2.2.2.2.2.2 To Tt Td Go Gg Ga Be Bt Si Te Bz Bk) H1 → va_S A0 s.heap H1 locs1 → (∀ q : Nat, q < H.size → ¬ fA 17 ad H.size q → H1[q]? = H[q]?) → H.size ≤ H1.size → W p l e R s m args below meth c H1 locs1 (cells + 0) (slots + 0) Q (F0 m (pc + 3) ls (.int u.1 :: rest))) : W p l e R s m args below meth c H locs cells slots Q (F0 m pc ls (.int a3 :: .long a2 :: .int a1 :: .int a0 :: .ref (ad 0) :: rest)) := by
  subst hu
  exact va_calli (va_runV (As := [.int a0, .int a1, .long a2, .int a3]) (rest := rest) ⟨hx, hb, hml, hown, hts⟩ (c_X6_set l dC dI cI cJ ad hi H.size Th Ce Le De Ke Kc Ko Kl Kd Ug Ur Va To Tt Td Go Gg Ga Be Bt Si Te Bz Bk a0 a1 a2 a3 hs) (kV 4 hts hlk mI_X6_set mN_RX6 mY_X6_set mV_X6_set rfl rfl (by decide +kernel) hR) ⟨fun a U g mk q => ⟨q.1, q.2.1, q.2.2.1, va_K.moved (u := U) (U := U.calling g mk a) (Vm.Alike.refl U.vm) q.2.2.2⟩, va_recv hK hP (ci := 8) (q0 := 0) rfl rfl, fun U hU hW => ⟨rfl, by rw [hU], by rw [hU]; exact hP, va_K.moved hW.alike hK⟩⟩ rfl rfl hz rfl (lv_room hw) hd hf) hS (fun q _ h => hA q h) (fun q h => hA q h) (fun r u t H1 locs1 ht hvm hw9 hB hz1 hk1 hS1 => by
    subst hw9
    exact k H1 locs1 (by rw [← ht]; exact hB) hS1 hk1 hz1)

def f_X6_addPart (a0 : Int32) (a1 : Int32) (Ce : Nat → Int64) (Va : Nat → Int64) : (Nat → Int64) := (if (Va a1.toNatClampNeg) = (0 : Int64) then (if (Ce ((((21 : Int32) * ((64 : Int32) + a0)) + a1) + (1 : Int32)).toNatClampNeg) = (0 : Int64) then (vp_updL (vp_updL Va a1.toNatClampNeg ((Va a1.toNatClampNeg) + (Ce (((21 : Int32) * ((64 : Int32) + a0)) + a1).toNatClampNeg))) (a1 + (1 : Int32)).toNatClampNeg (0 : Int64)) else (if (Ce ((((21 : Int32) * ((64 : Int32) + a0)) + a1) + (1 : Int32)).toNatClampNeg) ≤ (0 : Int64) then Va else (if (Ce (((21 : Int32) * ((64 : Int32) + a0)) + a1).toNatClampNeg) = (0 : Int64) then Va else (vp_updL (vp_updL Va a1.toNatClampNeg (Ce (((21 : Int32) * ((64 : Int32) + a0)) + a1).toNatClampNeg)) (a1 + (1 : Int32)).toNatClampNeg (Ce ((((21 : Int32) * ((64 : Int32) + a0)) + a1) + (1 : Int32)).toNatClampNeg))))) else (if (Ce ((((21 : Int32) * ((64 : Int32) + a0)) + a1) + (1 : Int32)).toNatClampNeg) = (Va (a1 + (1 : Int32)).toNatClampNeg) then (vp_updL (vp_updL Va a1.toNatClampNeg ((Va a1.toNatClampNeg) + (Ce (((21 : Int32) * ((64 : Int32) + a0)) + a1).toNatClampNeg))) (a1 + (1 : Int32)).toNatClampNeg (Va (a1 + (1 : Int32)).toNatClampNeg)) else (if (Ce ((((21 : Int32) * ((64 : Int32) + a0)) + a1) + (1 : Int32)).toNatClampNeg) ≤ (Va (a1 + (1 : Int32)).toNatClampNeg) then Va else (if (Ce (((21 : Int32) * ((64 : Int32) + a0)) + a1).toNatClampNeg) = (0 : Int64) then Va else (vp_updL (vp_updL Va a1.toNatClampNeg (Ce (((21 : Int32) * ((64 : Int32) + a0)) + a1).toNatClampNeg)) (a1 + (1 : Int32)).toNatClampNeg (Ce ((((21 : Int32) * ((64 : Int32) + a0)) + a1) + (1 : Int32)).toNatClampNeg))))))
def S_X6_addPart (a0 : Int32) (a1 : Int32) (Ce : Nat → Int64) (Va : Nat → Int64) : Prop := (vp_in (((21 : Int32) * ((64 : Int32) + a0)) + a1) 3360) ∧ ((vp_in ((((21 : Int32) * ((64 : Int32) + a0)) + a1) + (1 : Int32)) 3360) ∧ ((vp_in a1 21) ∧ (((Va a1.toNatClampNeg) = (0 : Int64) → (((Ce ((((21 : Int32) * ((64 : Int32) + a0)) + a1) + (1 : Int32)).toNatClampNeg) = (0 : Int64) → ((vp_in a1 21) ∧ ((vp_in a1 21) ∧ ((vp_in (a1 + (1 : Int32)) 21) ∧ (True))))) ∧ (¬ (Ce ((((21 : Int32) * ((64 : Int32) + a0)) + a1) + (1 : Int32)).toNatClampNeg) = (0 : Int64) → (((Ce ((((21 : Int32) * ((64 : Int32) + a0)) + a1) + (1 : Int32)).toNatClampNeg) ≤ (0 : Int64) → (True)) ∧ (¬ (Ce ((((21 : Int32) * ((64 : Int32) + a0)) + a1) + (1 : Int32)).toNatClampNeg) ≤ (0 : Int64) → (((Ce (((21 : Int32) * ((64 : Int32) + a0)) + a1).toNatClampNeg) = (0 : Int64) → (True)) ∧ (¬ (Ce (((21 : Int32) * ((64 : Int32) + a0)) + a1).toNatClampNeg) = (0 : Int64) → ((vp_in a1 21) ∧ ((vp_in (a1 + (1 : Int32)) 21) ∧ (True)))))))))) ∧ (¬ (Va a1.toNatClampNeg) = (0 : Int64) → ((vp_in (a1 + (1 : Int32)) 21) ∧ (((Ce ((((21 : Int32) * ((64 : Int32) + a0)) + a1) + (1 : Int32)).toNatClampNeg) = (Va (a1 + (1 : Int32)).toNatClampNeg) → ((vp_in a1 21) ∧ ((vp_in a1 21) ∧ ((vp_in (a1 + (1 : Int32)) 21) ∧ (True))))) ∧ (¬ (Ce ((((21 : Int32) * ((64 : Int32) + a0)) + a1) + (1 : Int32)).toNatClampNeg) = (Va (a1 + (1 : Int32)).toNatClampNeg) → (((Ce ((((21 : Int32) * ((64 : Int32) + a0)) + a1) + (1 : Int32)).toNatClampNeg) ≤ (Va (a1 + (1 : Int32)).toNatClampNeg) → (True)) ∧ (¬ (Ce ((((21 : Int32) * ((64 : Int32) + a0)) + a1) + (1 : Int32)).toNatClampNeg) ≤ (Va (a1 + (1 : Int32)).toNatClampNeg) → (((Ce (((21 : Int32) * ((64 : Int32) + a0)) + a1).toNatClampNeg) = (0 : Int64) → (True)) ∧ (¬ (Ce (((21 : Int32) * ((64 : Int32) + a0)) + a1).toNatClampNeg) = (0 : Int64) → ((vp_in a1 21) ∧ ((vp_in (a1 + (1 : Int32)) 21) ∧ (True))))))))))))))
set_option maxHeartbeats 4000000 in
set_option maxRecDepth 100000 in
theorem c_X6_addPart (l : Launch) (dC : Nat → ClassId) (dI : Nat → Nat → Nat) (cI cJ : ClassId) (ad : Nat → Nat) (hi : fI 17 ad) (sz : Nat) (Th : Int32) (Ce : Nat → Int64) (Le : Nat → Int32) (De : Int32) (Ke : Int32) (Kc : Nat → Int64) (Ko : Nat → Int32) (Kl : Nat → Int32) (Kd : Nat → Int32) (Ug : Nat → Int64) (Ur : Nat → Int64) (Va : Nat → Int64) (To : Int32) (Tt : Nat → Int32) (Td : Nat → Int32) (Go : Int32) (Gg : Nat → Int32) (Ga : Nat → Int32) (Be : Int32) (Bt : Nat → Int32) (Si : Int32) (Te : Nat → Int32) (Bz : Int32) (Bk : Nat → Int32) (a0 : Int32) (a1 : Int32) (hs : S_X6_addPart a0 a1 Ce Va) : Met l yX6_addPart (mW yX6_addPart cX6_addPart 9 none) { frames := 0, cells := 0, slots := 0, locals := 0 } (va_Pc [.ref (ad 0), .int a0, .int a1] (fun U => U.heap.size = sz ∧ va_P (dC, dI) vwCl (wM ad cI cJ Th Ce Le De Ke Kc Ko Kl Kd Ug Ur Va To Tt Td Go Gg Ga Be Bt Si Te Bz Bk) U.heap ∧ va_K (dC, dI) vwCl [(cI, .int), (cJ, .long)] U)) (va_Qv (fun (_ : Unit) => True) (fun _ t => va_P (dC, dI) vwCl (wM ad cI cJ Th Ce Le De Ke Kc Ko Kl Kd Ug Ur (f_X6_addPart a0 a1 Ce Va) To Tt Td Go Gg Ga Be Bt Si Te Bz Bk) t.heap) (fA 17 ad sz)) 0 0 (fA 17 ad sz) := by
  refine Met.ofW (cc := cX6_addPart) (maxL := 9) (ret := none) (by decide) rfl ?_
  intro p e s m args below meth c s₁ B hml hv
  obtain ⟨rfl, hsz, hP, hK⟩ := hv
  have hx := B.exec
  have hb := B.bytes
  have hr := B.returns
  have hts := mW_hts (atoms_spec (ws := (mW yX6_addPart cX6_addPart 9 none)) B.pre)
  have hown : s.vm.findClass RX6 = some m.cls := findClass_of_methodNamed B.named
  have hlocks := B.notSynchronized
  subst hsz
  have hA : ∀ (n : Nat) (q : Nat), s.heap.size ≤ n → n ≤ q → fA 17 ad s.heap.size q := fun n q h1 h2 => Or.inr (Nat.le_trans h1 h2)
  have hS : va_S (fA 17 ad s.heap.size) s.heap s.heap [] := va_S.rf
  have hA : ∀ q, s.heap.size ≤ q → (fA 17 ad s.heap.size) q := fun q h => Or.inr h
  unfold S_X6_addPart at hs
  have hl := lv_entry ([.ref (ad 0), .int a0, .int a1]) (n := 9) (Nat.le_of_ble_eq_true rfl)
  rw [lg_entry_eq]
  generalize (lg_sl ([.ref (ad 0), .int a0, .int a1]) ++ List.replicate (9 - (lg_sl ([.ref (ad 0), .int a0, .int a1])).length) Slot.unset).toArray = ls at hl ⊢
  have hl : lv_has ls 9 [(0, .ref (ad 0)), (1, .int a0), (2, .int a1)] := hl
  refine W_gen (fun Q9 hQ9 => ?_)
  refine lv_aload_n hx hb dX6_addPart_0 rfl (lv_at hl 0 rfl) ?_
  refine va_get (D := (dC, dI)) (ci := 8) (v := .ref (ad 1)) (C := RX6) (T := TX6) (N := 24) hx hb hts iW_X6 hown hK hP 0 rfl rfl 1 (by decide) (hts _ mF_RX6_7) (fun _ h9 => h9) rfl dX6_addPart_1 ?_
  refine lv_bipush (v := 21) hx hb dX6_addPart_4 (by decide) ?_
  refine lv_bipush (v := 64) hx hb dX6_addPart_6 (by decide) ?_
  refine lv_iload_n hx hb dX6_addPart_8 rfl (lv_at hl 1 rfl) ?_
  refine lv_iadd hx hb dX6_addPart_9 ?_
  refine lv_imul hx hb dX6_addPart_10 ?_
  refine lv_iload_n hx hb dX6_addPart_11 rfl (lv_at hl 2 rfl) ?_
  refine lv_iadd hx hb dX6_addPart_12 ?_
  obtain ⟨h1, hs⟩ := hs
  refine va_lald hx hb hK hP 1 1 rfl rfl h1 dX6_addPart_13 ?_
  refine lv_lstore_n (lv' := [(3, .long (Ce (((21 : Int32) * ((64 : Int32) + a0)) + a1).toNatClampNeg)), (0, .ref (ad 0)), (1, .int a0), (2, .int a1)]) hx hb dX6_addPart_14 rfl hl (by decide) rfl (fun ls hl => ?_)
  refine lv_aload_n hx hb dX6_addPart_15 rfl (lv_at hl 1 rfl) ?_
  refine va_get (D := (dC, dI)) (ci := 8) (v := .ref (ad 1)) (C := RX6) (T := TX6) (N := 24) hx hb hts iW_X6 hown hK hP 0 rfl rfl 1 (by decide) (hts _ mF_RX6_7) (fun _ h9 => h9) rfl dX6_addPart_16 ?_
  refine lv_bipush (v := 21) hx hb dX6_addPart_19 (by decide) ?_
  refine lv_bipush (v := 64) hx hb dX6_addPart_21 (by decide) ?_
  refine lv_iload_n hx hb dX6_addPart_23 rfl (lv_at hl 2 rfl) ?_
  refine lv_iadd hx hb dX6_addPart_24 ?_
  refine lv_imul hx hb dX6_addPart_25 ?_
  refine lv_iload_n hx hb dX6_addPart_26 rfl (lv_at hl 3 rfl) ?_
  refine lv_iadd hx hb dX6_addPart_27 ?_
  refine lv_iconst (v := 1) hx hb dX6_addPart_28 (by decide) ?_
  refine lv_iadd hx hb dX6_addPart_29 ?_
  obtain ⟨h2, hs⟩ := hs
  refine va_lald hx hb hK hP 1 1 rfl rfl h2 dX6_addPart_30 ?_
  refine lv_lstore (lv' := [(5, .long (Ce ((((21 : Int32) * ((64 : Int32) + a0)) + a1) + (1 : Int32)).toNatClampNeg)), (3, .long (Ce (((21 : Int32) * ((64 : Int32) + a0)) + a1).toNatClampNeg)), (0, .ref (ad 0)), (1, .int a0), (2, .int a1)]) hx hb dX6_addPart_31 hl (by decide) rfl (fun ls hl => ?_)
  refine lv_aload_n hx hb dX6_addPart_33 rfl (lv_at hl 2 rfl) ?_
  refine va_get (D := (dC, dI)) (ci := 8) (v := .ref (ad 9)) (C := RX6) (T := TX6) (N := 24) hx hb hts iW_X6 hown hK hP 0 rfl rfl 11 (by decide) (hts _ mF_RX6_35) (fun _ h9 => h9) rfl dX6_addPart_34 ?_
  refine lv_iload_n hx hb dX6_addPart_37 rfl (lv_at hl 4 rfl) ?_
  obtain ⟨h3, hs⟩ := hs
  refine va_lald hx hb hK hP 9 1 rfl rfl h3 dX6_addPart_38 ?_
  refine lv_lconst (v := 0) hx hb dX6_addPart_39 (by decide) ?_
  refine W.lcmp hx hb dX6_addPart_40 ?_
  refine lv_if_ne (tgt := 48) hx hb dX6_addPart_41 (by decide) (fun c4 => ?_) (fun c4 => ?_)
  · have c4 : ¬ (Va a1.toNatClampNeg) = (0 : Int64) := fun z => c4 (lc_eq.mpr z)
    have hs := hs.2 c4
    refine lv_aload_n hx hb dX6_addPart_48 rfl (lv_at hl 2 rfl) ?_
    refine va_get (D := (dC, dI)) (ci := 8) (v := .ref (ad 9)) (C := RX6) (T := TX6) (N := 24) hx hb hts iW_X6 hown hK hP 0 rfl rfl 11 (by decide) (hts _ mF_RX6_35) (fun _ h9 => h9) rfl dX6_addPart_49 ?_
    refine lv_iload_n hx hb dX6_addPart_52 rfl (lv_at hl 4 rfl) ?_
    refine lv_iconst (v := 1) hx hb dX6_addPart_53 (by decide) ?_
    refine lv_iadd hx hb dX6_addPart_54 ?_
    obtain ⟨h5, hs⟩ := hs
    refine va_lald hx hb hK hP 9 1 rfl rfl h5 dX6_addPart_55 ?_
    refine lv_lstore (lv' := [(7, .long (Va (a1 + (1 : Int32)).toNatClampNeg)), (5, .long (Ce ((((21 : Int32) * ((64 : Int32) + a0)) + a1) + (1 : Int32)).toNatClampNeg)), (3, .long (Ce (((21 : Int32) * ((64 : Int32) + a0)) + a1).toNatClampNeg)), (0, .ref (ad 0)), (1, .int a0), (2, .int a1)]) hx hb dX6_addPart_56 hl (by decide) rfl (fun ls hl => ?_)
    refine lv_lload hx hb dX6_addPart_58 (lv_at hl 1 rfl) ?_
    refine lv_lload hx hb dX6_addPart_60 (lv_at hl 0 rfl) ?_
    refine W.lcmp hx hb dX6_addPart_62 ?_
    refine lv_if_ne (tgt := 93) hx hb dX6_addPart_63 (by decide) (fun c6 => ?_) (fun c6 => ?_)
    · have c6 : ¬ (Ce ((((21 : Int32) * ((64 : Int32) + a0)) + a1) + (1 : Int32)).toNatClampNeg) = (Va (a1 + (1 : Int32)).toNatClampNeg) := fun z => c6 (lc_eq.mpr z)
      have hs := hs.2 c6
      refine lv_lload hx hb dX6_addPart_93 (lv_at hl 1 rfl) ?_
      refine lv_lload hx hb dX6_addPart_95 (lv_at hl 0 rfl) ?_
      refine W.lcmp hx hb dX6_addPart_97 ?_
      refine lv_if_le (tgt := 124) hx hb dX6_addPart_98 (by decide) (fun c7 => ?_) (fun c7 => ?_)
      · have c7 : (Ce ((((21 : Int32) * ((64 : Int32) + a0)) + a1) + (1 : Int32)).toNatClampNeg) ≤ (Va (a1 + (1 : Int32)).toNatClampNeg) := lc_le.mp c7
        have hs := hs.1 c7
        rw [hQ9]
        have hf : f_X6_addPart a0 a1 Ce Va = Va := by simp only [f_X6_addPart, if_neg c4, if_neg c6, if_pos c7]
        exact W.vret hx hb hr (fun t ht hW => ⟨⟨(), rfl, True.intro, by rw [hf]; show va_P (dC, dI) vwCl _ t.heap; rw [ht]; exact hP⟩, hS.F ht⟩) hS.2.2 dX6_addPart_124
      · have c7 : ¬ (Ce ((((21 : Int32) * ((64 : Int32) + a0)) + a1) + (1 : Int32)).toNatClampNeg) ≤ (Va (a1 + (1 : Int32)).toNatClampNeg) := fun z => c7 (lc_le.mpr z)
        have hs := hs.2 c7
        refine lv_lload_n hx hb dX6_addPart_101 rfl (lv_at hl 2 rfl) ?_
        refine lv_lconst (v := 0) hx hb dX6_addPart_102 (by decide) ?_
        refine W.lcmp hx hb dX6_addPart_103 ?_
        refine lv_if_eq (tgt := 124) hx hb dX6_addPart_104 (by decide) (fun c8 => ?_) (fun c8 => ?_)
        · have c8 : (Ce (((21 : Int32) * ((64 : Int32) + a0)) + a1).toNatClampNeg) = (0 : Int64) := lc_eq.mp c8
          have hs := hs.1 c8
          rw [hQ9]
          have hf : f_X6_addPart a0 a1 Ce Va = Va := by simp only [f_X6_addPart, if_neg c4, if_neg c6, if_neg c7, if_pos c8]
          exact W.vret hx hb hr (fun t ht hW => ⟨⟨(), rfl, True.intro, by rw [hf]; show va_P (dC, dI) vwCl _ t.heap; rw [ht]; exact hP⟩, hS.F ht⟩) hS.2.2 dX6_addPart_124
        · have c8 : ¬ (Ce (((21 : Int32) * ((64 : Int32) + a0)) + a1).toNatClampNeg) = (0 : Int64) := fun z => c8 (lc_eq.mpr z)
          have hs := hs.2 c8
          refine lv_aload_n hx hb dX6_addPart_107 rfl (lv_at hl 3 rfl) ?_
          refine va_get (D := (dC, dI)) (ci := 8) (v := .ref (ad 9)) (C := RX6) (T := TX6) (N := 24) hx hb hts iW_X6 hown hK hP 0 rfl rfl 11 (by decide) (hts _ mF_RX6_35) (fun _ h9 => h9) rfl dX6_addPart_108 ?_
          refine lv_iload_n hx hb dX6_addPart_111 rfl (lv_at hl 5 rfl) ?_
          refine lv_lload_n hx hb dX6_addPart_112 rfl (lv_at hl 2 rfl) ?_
          obtain ⟨h9, hs⟩ := hs
          refine va_last hx hb hK hP (fA_D hi rfl) hS 9 1 rfl rfl h9 dX6_addPart_113 (fun H locs hP _ hS => ?_)
          have hP : va_P (dC, dI) vwCl (wM ad cI cJ Th Ce Le De Ke Kc Ko Kl Kd Ug Ur (vp_updL Va a1.toNatClampNeg (Ce (((21 : Int32) * ((64 : Int32) + a0)) + a1).toNatClampNeg)) To Tt Td Go Gg Ga Be Bt Si Te Bz Bk) H := hP
          refine lv_aload_n hx hb dX6_addPart_114 rfl (lv_at hl 3 rfl) ?_
          refine va_get (D := (dC, dI)) (ci := 8) (v := .ref (ad 9)) (C := RX6) (T := TX6) (N := 24) hx hb hts iW_X6 hown hK hP 0 rfl rfl 11 (by decide) (hts _ mF_RX6_35) (fun _ h9 => h9) rfl dX6_addPart_115 ?_
          refine lv_iload_n hx hb dX6_addPart_118 rfl (lv_at hl 5 rfl) ?_
          refine lv_iconst (v := 1) hx hb dX6_addPart_119 (by decide) ?_
          refine lv_iadd hx hb dX6_addPart_120 ?_
          refine lv_lload hx hb dX6_addPart_121 (lv_at hl 1 rfl) ?_
          obtain ⟨h10, hs⟩ := hs
          refine va_last hx hb hK hP (fA_D hi rfl) hS 9 1 rfl rfl h10 dX6_addPart_123 (fun H locs hP _ hS => ?_)
          have hP : va_P (dC, dI) vwCl (wM ad cI cJ Th Ce Le De Ke Kc Ko Kl Kd Ug Ur (vp_updL (vp_updL Va a1.toNatClampNeg (Ce (((21 : Int32) * ((64 : Int32) + a0)) + a1).toNatClampNeg)) (a1 + (1 : Int32)).toNatClampNeg (Ce ((((21 : Int32) * ((64 : Int32) + a0)) + a1) + (1 : Int32)).toNatClampNeg)) To Tt Td Go Gg Ga Be Bt Si Te Bz Bk) H := hP
          rw [hQ9]
          have hf : f_X6_addPart a0 a1 Ce Va = (vp_updL (vp_updL Va a1.toNatClampNeg (Ce (((21 : Int32) * ((64 : Int32) + a0)) + a1).toNatClampNeg)) (a1 + (1 : Int32)).toNatClampNeg (Ce ((((21 : Int32) * ((64 : Int32) + a0)) + a1) + (1 : Int32)).toNatClampNeg)) := by simp only [f_X6_addPart, if_neg c4, if_neg c6, if_neg c7, if_neg c8]
          exact W.vret hx hb hr (fun t ht hW => ⟨⟨(), rfl, True.intro, by rw [hf]; show va_P (dC, dI) vwCl _ t.heap; rw [ht]; exact hP⟩, hS.F ht⟩) hS.2.2 dX6_addPart_124
    · have c6 : (Ce ((((21 : Int32) * ((64 : Int32) + a0)) + a1) + (1 : Int32)).toNatClampNeg) = (Va (a1 + (1 : Int32)).toNatClampNeg) := lc_eq.mp c6
      have hs := hs.1 c6
      refine lv_aload_n hx hb dX6_addPart_66 rfl (lv_at hl 3 rfl) ?_
      refine va_get (D := (dC, dI)) (ci := 8) (v := .ref (ad 9)) (C := RX6) (T := TX6) (N := 24) hx hb hts iW_X6 hown hK hP 0 rfl rfl 11 (by decide) (hts _ mF_RX6_35) (fun _ h9 => h9) rfl dX6_addPart_67 ?_
      refine lv_iload_n hx hb dX6_addPart_70 rfl (lv_at hl 5 rfl) ?_
      refine lv_aload_n hx hb dX6_addPart_71 rfl (lv_at hl 3 rfl) ?_
      refine va_get (D := (dC, dI)) (ci := 8) (v := .ref (ad 9)) (C := RX6) (T := TX6) (N := 24) hx hb hts iW_X6 hown hK hP 0 rfl rfl 11 (by decide) (hts _ mF_RX6_35) (fun _ h9 => h9) rfl dX6_addPart_72 ?_
      refine lv_iload_n hx hb dX6_addPart_75 rfl (lv_at hl 5 rfl) ?_
      obtain ⟨h11, hs⟩ := hs
      refine va_lald hx hb hK hP 9 1 rfl rfl h11 dX6_addPart_76 ?_
      refine lv_lload_n hx hb dX6_addPart_77 rfl (lv_at hl 2 rfl) ?_
      refine lv_ladd hx hb dX6_addPart_78 ?_
      obtain ⟨h12, hs⟩ := hs
      refine va_last hx hb hK hP (fA_D hi rfl) hS 9 1 rfl rfl h12 dX6_addPart_79 (fun H locs hP _ hS => ?_)
      have hP : va_P (dC, dI) vwCl (wM ad cI cJ Th Ce Le De Ke Kc Ko Kl Kd Ug Ur (vp_updL Va a1.toNatClampNeg ((Va a1.toNatClampNeg) + (Ce (((21 : Int32) * ((64 : Int32) + a0)) + a1).toNatClampNeg))) To Tt Td Go Gg Ga Be Bt Si Te Bz Bk) H := hP
      refine lv_aload_n hx hb dX6_addPart_80 rfl (lv_at hl 3 rfl) ?_
      refine va_get (D := (dC, dI)) (ci := 8) (v := .ref (ad 9)) (C := RX6) (T := TX6) (N := 24) hx hb hts iW_X6 hown hK hP 0 rfl rfl 11 (by decide) (hts _ mF_RX6_35) (fun _ h9 => h9) rfl dX6_addPart_81 ?_
      refine lv_iload_n hx hb dX6_addPart_84 rfl (lv_at hl 5 rfl) ?_
      refine lv_iconst (v := 1) hx hb dX6_addPart_85 (by decide) ?_
      refine lv_iadd hx hb dX6_addPart_86 ?_
      refine lv_lload hx hb dX6_addPart_87 (lv_at hl 0 rfl) ?_
      obtain ⟨h13, hs⟩ := hs
      refine va_last hx hb hK hP (fA_D hi rfl) hS 9 1 rfl rfl h13 dX6_addPart_89 (fun H locs hP _ hS => ?_)
      have hP : va_P (dC, dI) vwCl (wM ad cI cJ Th Ce Le De Ke Kc Ko Kl Kd Ug Ur (vp_updL (vp_updL Va a1.toNatClampNeg ((Va a1.toNatClampNeg) + (Ce (((21 : Int32) * ((64 : Int32) + a0)) + a1).toNatClampNeg))) (a1 + (1 : Int32)).toNatClampNeg (Va (a1 + (1 : Int32)).toNatClampNeg)) To Tt Td Go Gg Ga Be Bt Si Te Bz Bk) H := hP
      refine lv_goto (tgt := 124) hx hb dX6_addPart_90 (by decide) ?_
      rw [hQ9]
      have hf : f_X6_addPart a0 a1 Ce Va = (vp_updL (vp_updL Va a1.toNatClampNeg ((Va a1.toNatClampNeg) + (Ce (((21 : Int32) * ((64 : Int32) + a0)) + a1).toNatClampNeg))) (a1 + (1 : Int32)).toNatClampNeg (Va (a1 + (1 : Int32)).toNatClampNeg)) := by simp only [f_X6_addPart, if_neg c4, if_pos c6]
      exact W.vret hx hb hr (fun t ht hW => ⟨⟨(), rfl, True.intro, by rw [hf]; show va_P (dC, dI) vwCl _ t.heap; rw [ht]; exact hP⟩, hS.F ht⟩) hS.2.2 dX6_addPart_124
  · have c4 : (Va a1.toNatClampNeg) = (0 : Int64) := lc_eq.mp c4
    have hs := hs.1 c4
    refine lv_lconst (v := 0) hx hb dX6_addPart_44 (by decide) ?_
    refine lv_goto (tgt := 56) hx hb dX6_addPart_45 (by decide) ?_
    refine lv_lstore (lv' := [(7, .long (0 : Int64)), (5, .long (Ce ((((21 : Int32) * ((64 : Int32) + a0)) + a1) + (1 : Int32)).toNatClampNeg)), (3, .long (Ce (((21 : Int32) * ((64 : Int32) + a0)) + a1).toNatClampNeg)), (0, .ref (ad 0)), (1, .int a0), (2, .int a1)]) hx hb dX6_addPart_56 hl (by decide) rfl (fun ls hl => ?_)
    refine lv_lload hx hb dX6_addPart_58 (lv_at hl 1 rfl) ?_
    refine lv_lload hx hb dX6_addPart_60 (lv_at hl 0 rfl) ?_
    refine W.lcmp hx hb dX6_addPart_62 ?_
    refine lv_if_ne (tgt := 93) hx hb dX6_addPart_63 (by decide) (fun c14 => ?_) (fun c14 => ?_)
    · have c14 : ¬ (Ce ((((21 : Int32) * ((64 : Int32) + a0)) + a1) + (1 : Int32)).toNatClampNeg) = (0 : Int64) := fun z => c14 (lc_eq.mpr z)
      have hs := hs.2 c14
      refine lv_lload hx hb dX6_addPart_93 (lv_at hl 1 rfl) ?_
      refine lv_lload hx hb dX6_addPart_95 (lv_at hl 0 rfl) ?_
      refine W.lcmp hx hb dX6_addPart_97 ?_
      refine lv_if_le (tgt := 124) hx hb dX6_addPart_98 (by decide) (fun c15 => ?_) (fun c15 => ?_)
      · have c15 : (Ce ((((21 : Int32) * ((64 : Int32) + a0)) + a1) + (1 : Int32)).toNatClampNeg) ≤ (0 : Int64) := lc_le.mp c15
        have hs := hs.1 c15
        rw [hQ9]
        have hf : f_X6_addPart a0 a1 Ce Va = Va := by simp only [f_X6_addPart, if_pos c4, if_neg c14, if_pos c15]
        exact W.vret hx hb hr (fun t ht hW => ⟨⟨(), rfl, True.intro, by rw [hf]; show va_P (dC, dI) vwCl _ t.heap; rw [ht]; exact hP⟩, hS.F ht⟩) hS.2.2 dX6_addPart_124
      · have c15 : ¬ (Ce ((((21 : Int32) * ((64 : Int32) + a0)) + a1) + (1 : Int32)).toNatClampNeg) ≤ (0 : Int64) := fun z => c15 (lc_le.mpr z)
        have hs := hs.2 c15
        refine lv_lload_n hx hb dX6_addPart_101 rfl (lv_at hl 2 rfl) ?_
        refine lv_lconst (v := 0) hx hb dX6_addPart_102 (by decide) ?_
        refine W.lcmp hx hb dX6_addPart_103 ?_
        refine lv_if_eq (tgt := 124) hx hb dX6_addPart_104 (by decide) (fun c16 => ?_) (fun c16 => ?_)
        · have c16 : (Ce (((21 : Int32) * ((64 : Int32) + a0)) + a1).toNatClampNeg) = (0 : Int64) := lc_eq.mp c16
          have hs := hs.1 c16
          rw [hQ9]
          have hf : f_X6_addPart a0 a1 Ce Va = Va := by simp only [f_X6_addPart, if_pos c4, if_neg c14, if_neg c15, if_pos c16]
          exact W.vret hx hb hr (fun t ht hW => ⟨⟨(), rfl, True.intro, by rw [hf]; show va_P (dC, dI) vwCl _ t.heap; rw [ht]; exact hP⟩, hS.F ht⟩) hS.2.2 dX6_addPart_124
        · have c16 : ¬ (Ce (((21 : Int32) * ((64 : Int32) + a0)) + a1).toNatClampNeg) = (0 : Int64) := fun z => c16 (lc_eq.mpr z)
          have hs := hs.2 c16
          refine lv_aload_n hx hb dX6_addPart_107 rfl (lv_at hl 3 rfl) ?_
          refine va_get (D := (dC, dI)) (ci := 8) (v := .ref (ad 9)) (C := RX6) (T := TX6) (N := 24) hx hb hts iW_X6 hown hK hP 0 rfl rfl 11 (by decide) (hts _ mF_RX6_35) (fun _ h9 => h9) rfl dX6_addPart_108 ?_
          refine lv_iload_n hx hb dX6_addPart_111 rfl (lv_at hl 5 rfl) ?_
          refine lv_lload_n hx hb dX6_addPart_112 rfl (lv_at hl 2 rfl) ?_
          obtain ⟨h17, hs⟩ := hs
          refine va_last hx hb hK hP (fA_D hi rfl) hS 9 1 rfl rfl h17 dX6_addPart_113 (fun H locs hP _ hS => ?_)
          have hP : va_P (dC, dI) vwCl (wM ad cI cJ Th Ce Le De Ke Kc Ko Kl Kd Ug Ur (vp_updL Va a1.toNatClampNeg (Ce (((21 : Int32) * ((64 : Int32) + a0)) + a1).toNatClampNeg)) To Tt Td Go Gg Ga Be Bt Si Te Bz Bk) H := hP
          refine lv_aload_n hx hb dX6_addPart_114 rfl (lv_at hl 3 rfl) ?_
          refine va_get (D := (dC, dI)) (ci := 8) (v := .ref (ad 9)) (C := RX6) (T := TX6) (N := 24) hx hb hts iW_X6 hown hK hP 0 rfl rfl 11 (by decide) (hts _ mF_RX6_35) (fun _ h9 => h9) rfl dX6_addPart_115 ?_
          refine lv_iload_n hx hb dX6_addPart_118 rfl (lv_at hl 5 rfl) ?_
          refine lv_iconst (v := 1) hx hb dX6_addPart_119 (by decide) ?_
          refine lv_iadd hx hb dX6_addPart_120 ?_
          refine lv_lload hx hb dX6_addPart_121 (lv_at hl 1 rfl) ?_
          obtain ⟨h18, hs⟩ := hs
          refine va_last hx hb hK hP (fA_D hi rfl) hS 9 1 rfl rfl h18 dX6_addPart_123 (fun H locs hP _ hS => ?_)
          have hP : va_P (dC, dI) vwCl (wM ad cI cJ Th Ce Le De Ke Kc Ko Kl Kd Ug Ur (vp_updL (vp_updL Va a1.toNatClampNeg (Ce (((21 : Int32) * ((64 : Int32) + a0)) + a1).toNatClampNeg)) (a1 + (1 : Int32)).toNatClampNeg (Ce ((((21 : Int32) * ((64 : Int32) + a0)) + a1) + (1 : Int32)).toNatClampNeg)) To Tt Td Go Gg Ga Be Bt Si Te Bz Bk) H := hP
          rw [hQ9]
          have hf : f_X6_addPart a0 a1 Ce Va = (vp_updL (vp_updL Va a1.toNatClampNeg (Ce (((21 : Int32) * ((64 : Int32) + a0)) + a1).toNatClampNeg)) (a1 + (1 : Int32)).toNatClampNeg (Ce ((((21 : Int32) * ((64 : Int32) + a0)) + a1) + (1 : Int32)).toNatClampNeg)) := by simp only [f_X6_addPart, if_pos c4, if_neg c14, if_neg c15, if_neg c16]
          exact W.vret hx hb hr (fun t ht hW => ⟨⟨(), rfl, True.intro, by rw [hf]; show va_P (dC, dI) vwCl _ t.heap; rw [ht]; exact hP⟩, hS.F ht⟩) hS.2.2 dX6_addPart_124
    · have c14 : (Ce ((((21 : Int32) * ((64 : Int32) + a0)) + a1) + (1 : Int32)).toNatClampNeg) = (0 : Int64) := lc_eq.mp c14
      have hs := hs.1 c14
      refine lv_aload_n hx hb dX6_addPart_66 rfl (lv_at hl 3 rfl) ?_
      refine va_get (D := (dC, dI)) (ci := 8) (v := .ref (ad 9)) (C := RX6) (T := TX6) (N := 24) hx hb hts iW_X6 hown hK hP 0 rfl rfl 11 (by decide) (hts _ mF_RX6_35) (fun _ h9 => h9) rfl dX6_addPart_67 ?_
      refine lv_iload_n hx hb dX6_addPart_70 rfl (lv_at hl 5 rfl) ?_
      refine lv_aload_n hx hb dX6_addPart_71 rfl (lv_at hl 3 rfl) ?_
      refine va_get (D := (dC, dI)) (ci := 8) (v := .ref (ad 9)) (C := RX6) (T := TX6) (N := 24) hx hb hts iW_X6 hown hK hP 0 rfl rfl 11 (by decide) (hts _ mF_RX6_35) (fun _ h9 => h9) rfl dX6_addPart_72 ?_
      refine lv_iload_n hx hb dX6_addPart_75 rfl (lv_at hl 5 rfl) ?_
      obtain ⟨h19, hs⟩ := hs
      refine va_lald hx hb hK hP 9 1 rfl rfl h19 dX6_addPart_76 ?_
      refine lv_lload_n hx hb dX6_addPart_77 rfl (lv_at hl 2 rfl) ?_
      refine lv_ladd hx hb dX6_addPart_78 ?_
      obtain ⟨h20, hs⟩ := hs
      refine va_last hx hb hK hP (fA_D hi rfl) hS 9 1 rfl rfl h20 dX6_addPart_79 (fun H locs hP _ hS => ?_)
      have hP : va_P (dC, dI) vwCl (wM ad cI cJ Th Ce Le De Ke Kc Ko Kl Kd Ug Ur (vp_updL Va a1.toNatClampNeg ((Va a1.toNatClampNeg) + (Ce (((21 : Int32) * ((64 : Int32) + a0)) + a1).toNatClampNeg))) To Tt Td Go Gg Ga Be Bt Si Te Bz Bk) H := hP
      refine lv_aload_n hx hb dX6_addPart_80 rfl (lv_at hl 3 rfl) ?_
      refine va_get (D := (dC, dI)) (ci := 8) (v := .ref (ad 9)) (C := RX6) (T := TX6) (N := 24) hx hb hts iW_X6 hown hK hP 0 rfl rfl 11 (by decide) (hts _ mF_RX6_35) (fun _ h9 => h9) rfl dX6_addPart_81 ?_
      refine lv_iload_n hx hb dX6_addPart_84 rfl (lv_at hl 5 rfl) ?_
      refine lv_iconst (v := 1) hx hb dX6_addPart_85 (by decide) ?_
      refine lv_iadd hx hb dX6_addPart_86 ?_
      refine lv_lload hx hb dX6_addPart_87 (lv_at hl 0 rfl) ?_
      obtain ⟨h21, hs⟩ := hs
      refine va_last hx hb hK hP (fA_D hi rfl) hS 9 1 rfl rfl h21 dX6_addPart_89 (fun H locs hP _ hS => ?_)
      have hP : va_P (dC, dI) vwCl (wM ad cI cJ Th Ce Le De Ke Kc Ko Kl Kd Ug Ur (vp_updL (vp_updL Va a1.toNatClampNeg ((Va a1.toNatClampNeg) + (Ce (((21 : Int32) * ((64 : Int32) + a0)) + a1).toNatClampNeg))) (a1 + (1 : Int32)).toNatClampNeg (0 : Int64)) To Tt Td Go Gg Ga Be Bt Si Te Bz Bk) H := hP
      refine lv_goto (tgt := 124) hx hb dX6_addPart_90 (by decide) ?_
      rw [hQ9]
      have hf : f_X6_addPart a0 a1 Ce Va = (vp_updL (vp_updL Va a1.toNatClampNeg ((Va a1.toNatClampNeg) + (Ce (((21 : Int32) * ((64 : Int32) + a0)) + a1).toNatClampNeg))) (a1 + (1 : Int32)).toNatClampNeg (0 : Int64)) := by simp only [f_X6_addPart, if_pos c4, if_pos c14]
      exact W.vret hx hb hr (fun t ht hW => ⟨⟨(), rfl, True.intro, by rw [hf]; show va_P (dC, dI) vwCl _ t.heap; rw [ht]; exact hP⟩, hS.F ht⟩) hS.2.2 dX6_addPart_124
theorem q_X6_addPart {p : Program} {l : Launch} {e : Env} {R : Room} {s : State} {m : MethodId} {args : Array Value} {below : List Frame} {meth : Method} {c : Code} {H : Heap} {locs : List Loc} {cells slots : Nat} {Q : State → Prop} {pc : Nat} {ls : Array Slot} {rest : List Value} {cc : ByteArray} {nL idx : Nat} {own : String} {A0 : Nat → Prop} {dC : Nat → ClassId} {dI : Nat → Nat → Nat} {cI cJ : ClassId} {ad : Nat → Nat} {Th : Int32} {Ce : Nat → Int64} {Le : Nat → Int32} {De : Int32} {Ke : Int32} {Kc : Nat → Int64} {Ko : Nat → Int32} {Kl : Nat → Int32} {Kd : Nat → Int32} {Ug : Nat → Int64} {Ur : Nat → Int64} {Va : Nat → Int64} {To : Int32} {Tt : Nat → Int32} {Td : Nat → Int32} {Go : Int32} {Gg : Nat → Int32} {Ga : Nat → Int32} {Be : Int32} {Bt : Nat → Int32} {Si : Int32} {Te : Nat → Int32} {Bz : Int32} {Bk : Nat → Int32} (hx : p.tables.exec = Jvm.exec) (hb : c.code = cc) (hml : c.maxLocals = nL) (hown : s.vm.findClass own = some m.cls) (hts : ∀ w ∈ bigW, w.before args s = true) (hlk : Cond.methodLink own idx yX6_addPart ∈ bigW) (hR : 1 ≤ R.frames ∧ 28 ≤ R.locals) (hf : cells + 0 ≤ R.cells ∧ slots + 0 ≤ R.slots) (hz : ls.size = nL) (hw : (rest.map fun v => v.category).sum ≤ 8) (hS : va_S A0 s.heap H locs) (hd : decode cc pc = .ok (.invokevirtual idx, 3)) (hA : ∀ q, fA 17 ad H.size q → A0 q) (hi : fI 17 ad) (hK : va_K (dC, dI) vwCl [(cI, .int), (cJ, .long)] s) (hP : va_P (dC, dI) vwCl (wM ad cI cJ Th Ce Le De Ke Kc Ko Kl Kd Ug Ur Va To Tt Td Go Gg Ga Be Bt Si Te Bz Bk) H) (a0 : Int32) (a1 : Int32) (hs : S_X6_addPart a0 a1 Ce Va)  (u : (Nat → Int64)) (hu : u = f_X6_addPart a0 a1 Ce Va) (k : ∀ (H1 : Heap) (locs1 : List Loc), va_P (dC, dI) vwCl (wM ad cI cJ Th Ce Le De Ke Kc Ko Kl Kd Ug Ur u To Tt Td Go Gg Ga Be Bt Si Te Bz Bk) H1 → va_S A0 s.heap H1 locs1 → W p l e R s m args below meth c H1 locs1 (cells + 0) (slots + 0) Q (F0 m (pc + 3) ls (rest))) : W p l e R s m args below meth c H locs cells slots Q (F0 m pc ls (.int a1 :: .int a0 :: .ref (ad 0) :: rest)) := by
  subst hu
  exact va_callv (va_runV (As := [.int a0, .int a1]) (rest := rest) ⟨hx, hb, hml, hown, hts⟩ (c_X6_addPart l dC dI cI cJ ad hi H.size Th Ce Le De Ke Kc Ko Kl Kd Ug Ur Va To Tt Td Go Gg Ga Be Bt Si Te Bz Bk a0 a1 hs) (kV 2 hts hlk mI_X6_addPart mN_RX6 mY_X6_addPart mV_X6_addPart rfl rfl (by decide +kernel) hR) ⟨fun a U g mk q => ⟨q.1, q.2.1, q.2.2.1, va_K.moved (u := U) (U := U.calling g mk a) (Vm.Alike.refl U.vm) q.2.2.2⟩, va_recv hK hP (ci := 8) (q0 := 0) rfl rfl, fun U hU hW => ⟨rfl, by rw [hU], by rw [hU]; exact hP, va_K.moved hW.alike hK⟩⟩ rfl rfl hz rfl (lv_room hw) hd hf) hS (fun q _ h => hA q h) (fun q h => hA q h) (fun u t H1 locs1 ht hvm hw9 hB hz1 hk1 hS1 => by
    skip
    exact k H1 locs1 (by rw [← ht]; exact hB) hS1)

def f_X6_add (a0 : Int32) (a1 : Int32) (a2 : Int64) (a3 : Int32) (Th : Int32) (Ce : Nat → Int64) (Le : Nat → Int32) (De : Int32) (Ke : Int32) (Kc : Nat → Int64) (Ko : Nat → Int32) (Kl : Nat → Int32) (Kd : Nat → Int32) (Va : Nat → Int64) : Int32 × Int32 × (Nat → Int64) × (Nat → Int32) × Int32 × (Nat → Int64) × (Nat → Int32) × (Nat → Int32) × (Nat → Int32) × (Nat → Int64) := (if (f_X6_in a0.toInt64 (0 : Int64) (2 : Int64)) = 0 then ((0 : Int32), (1 : Int32), Ce, Le, Ke, Kc, Ko, Kl, Kd, Va) else (if (f_X6_isRegister a1) = 0 then ((0 : Int32), (2 : Int32), Ce, Le, Ke, Kc, Ko, Kl, Kd, Va) else (if a0 = (2 : Int32) then (if (f_X6_in a2 (0 : Int64) (31 : Int64)) = 0 then ((0 : Int32), (2 : Int32), Ce, Le, Ke, Kc, Ko, Kl, Kd, Va) else (let u17 := f_X6_fetch a0 a1 Ce Va; (let u23 := f_X6_addPart a2.toInt32 (1 : Int32) Ce (vp_updL u17 (0 : Int32).toNatClampNeg ((u17 (0 : Int32).toNatClampNeg) + (Ce ((21 : Int32) * ((64 : Int32) + a2.toInt32)).toNatClampNeg))); (let u25 := f_X6_addPart a2.toInt32 (3 : Int32) Ce u23; (let u27 := f_X6_finish a0 a1 a3 (3 : Int32) (0 : Int32) Ce Le De Ke Kc Ko Kl Kd u25; (u27.1, u27.2.1, u27.2.2.1, u27.2.2.2.1, u27.2.2.2.2.1, u27.2.2.2.2.2.1, u27.2.2.2.2.2.2.1, u27.2.2.2.2.2.2.2.1, u27.2.2.2.2.2.2.2.2, u25)))))) else (let u7 := f_X6_fetch a0 a1 Ce Va; (if (f_X6_in a2 (-6442450941 : Int64) (6442450941 : Int64)) = 0 then ((0 : Int32), (0 : Int32), Ce, Le, Ke, Kc, Ko, Kl, Kd, u7) else (let u13 := f_X6_finish a0 a1 a3 (3 : Int32) (0 : Int32) Ce Le De Ke Kc Ko Kl Kd (vp_updL u7 (0 : Int32).toNatClampNeg ((u7 (0 : Int32).toNatClampNeg) + a2)); (u13.1, u13.2.1, u13.2.2.1, u13.2.2.2.1, u13.2.2.2.2.1, u13.2.2.2.2.2.1, u13.2.2.2.2.2.2.1, u13.2.2.2.2.2.2.2.1, u13.2.2.2.2.2.2.2.2, (vp_updL u7 (0 : Int32).toNatClampNeg ((u7 (0 : Int32).toNatClampNeg) + a2)))))))))
def S_X6_add (a0 : Int32) (a1 : Int32) (a2 : Int64) (a3 : Int32) (Th : Int32) (Ce : Nat → Int64) (Le : Nat → Int32) (De : Int32) (Ke : Int32) (Kc : Nat → Int64) (Ko : Nat → Int32) (Kl : Nat → Int32) (Kd : Nat → Int32) (Va : Nat → Int64) : Prop := ((f_X6_in a0.toInt64 (0 : Int64) (2 : Int64)) = 0 → (True)) ∧ (¬ (f_X6_in a0.toInt64 (0 : Int64) (2 : Int64)) = 0 → (((f_X6_isRegister a1) = 0 → (True)) ∧ (¬ (f_X6_isRegister a1) = 0 → ((a0 = (2 : Int32) → (((f_X6_in a2 (0 : Int64) (31 : Int64)) = 0 → (True)) ∧ (¬ (f_X6_in a2 (0 : Int64) (31 : Int64)) = 0 → ((S_X6_fetch a0 a1 Ce Va) ∧ (∀ u17, u17 = f_X6_fetch a0 a1 Ce Va → ((vp_in (0 : Int32) 21) ∧ ((vp_in ((21 : Int32) * ((64 : Int32) + a2.toInt32)) 3360) ∧ ((vp_in (0 : Int32) 21) ∧ ((S_X6_addPart a2.toInt32 (1 : Int32) Ce (vp_updL u17 (0 : Int32).toNatClampNeg ((u17 (0 : Int32).toNatClampNeg) + (Ce ((21 : Int32) * ((64 : Int32) + a2.toInt32)).toNatClampNeg)))) ∧ (∀ u23, u23 = f_X6_addPart a2.toInt32 (1 : Int32) Ce (vp_updL u17 (0 : Int32).toNatClampNeg ((u17 (0 : Int32).toNatClampNeg) + (Ce ((21 : Int32) * ((64 : Int32) + a2.toInt32)).toNatClampNeg))) → ((S_X6_addPart a2.toInt32 (3 : Int32) Ce u23) ∧ (∀ u25, u25 = f_X6_addPart a2.toInt32 (3 : Int32) Ce u23 → ((S_X6_finish a0 a1 a3 (3 : Int32) (0 : Int32) Ce Le De Ke Kc Ko Kl Kd u25) ∧ (∀ u27, u27 = f_X6_finish a0 a1 a3 (3 : Int32) (0 : Int32) Ce Le De Ke Kc Ko Kl Kd u25 → (True))))))))))))))) ∧ (¬ a0 = (2 : Int32) → ((S_X6_fetch a0 a1 Ce Va) ∧ (∀ u7, u7 = f_X6_fetch a0 a1 Ce Va → (((f_X6_in a2 (-6442450941 : Int64) (6442450941 : Int64)) = 0 → (True)) ∧ (¬ (f_X6_in a2 (-6442450941 : Int64) (6442450941 : Int64)) = 0 → ((vp_in (0 : Int32) 21) ∧ ((vp_in (0 : Int32) 21) ∧ ((S_X6_finish a0 a1 a3 (3 : Int32) (0 : Int32) Ce Le De Ke Kc Ko Kl Kd (vp_updL u7 (0 : Int32).toNatClampNeg ((u7 (0 : Int32).toNatClampNeg) + a2))) ∧ (∀ u13, u13 = f_X6_finish a0 a1 a3 (3 : Int32) (0 : Int32) Ce Le De Ke Kc Ko Kl Kd (vp_updL u7 (0 : Int32).toNatClampNeg ((u7 (0 : Int32).toNatClampNeg) + a2)) → (True))))))))))))))
set_option maxHeartbeats 4000000 in
set_option maxRecDepth 100000 in
theorem c_X6_add (l : Launch) (dC : Nat → ClassId) (dI : Nat → Nat → Nat) (cI cJ : ClassId) (ad : Nat → Nat) (hi : fI 17 ad) (sz : Nat) (Th : Int32) (Ce : Nat → Int64) (Le : Nat → Int32) (De : Int32) (Ke : Int32) (Kc : Nat → Int64) (Ko : Nat → Int32) (Kl : Nat → Int32) (Kd : Nat → Int32) (Ug : Nat → Int64) (Ur : Nat → Int64) (Va : Nat → Int64) (To : Int32) (Tt : Nat → Int32) (Td : Nat → Int32) (Go : Int32) (Gg : Nat → Int32) (Ga : Nat → Int32) (Be : Int32) (Bt : Nat → Int32) (Si : Int32) (Te : Nat → Int32) (Bz : Int32) (Bk : Nat → Int32) (a0 : Int32) (a1 : Int32) (a2 : Int64) (a3 : Int32) (hs : S_X6_add a0 a1 a2 a3 Th Ce Le De Ke Kc Ko Kl Kd Va) : Met l yX6_add (mW yX6_add cX6_add 6 (some .int)) { frames := 4, cells := 0, slots := 0, locals := 92 } (va_Pc [.ref (ad 0), .int a0, .int a1, .long a2, .int a3] (fun U => U.heap.size = sz ∧ va_P (dC, dI) vwCl (wM ad cI cJ Th Ce Le De Ke Kc Ko Kl Kd Ug Ur Va To Tt Td Go Gg Ga Be Bt Si Te Bz Bk) U.heap ∧ va_K (dC, dI) vwCl [(cI, .int), (cJ, .long)] U)) (va_Qi (fun (r : Int32) (_ : Unit) => r = (f_X6_add a0 a1 a2 a3 Th Ce Le De Ke Kc Ko Kl Kd Va).1) (fun _ t => va_P (dC, dI) vwCl (wM ad cI cJ ((f_X6_add a0 a1 a2 a3 Th Ce Le De Ke Kc Ko Kl Kd Va).2.1) ((f_X6_add a0 a1 a2 a3 Th Ce Le De Ke Kc Ko Kl Kd Va).2.2.1) ((f_X6_add a0 a1 a2 a3 Th Ce Le De Ke Kc Ko Kl Kd Va).2.2.2.1) De ((f_X6_add a0 a1 a2 a3 Th Ce Le De Ke Kc Ko Kl Kd Va).2.2.2.2.1) ((f_X6_add a0 a1 a2 a3 Th Ce Le De Ke Kc Ko Kl Kd Va).2.2.2.2.2.1) ((f_X6_add a0 a1 a2 a3 Th Ce Le De Ke Kc Ko Kl Kd Va).2.2.2.2.2.2.1) ((f_X6_add a0 a1 a2 a3 Th Ce Le De Ke Kc Ko Kl Kd Va).2.2.2.2.2.2.2.1) ((f_X6_add a0 a1 a2 a3 Th Ce Le De Ke Kc Ko Kl Kd Va).2.2.2.2.2.2.2.2.1) Ug Ur ((f_X6_add a0 a1 a2 a3 Th Ce Le De Ke Kc Ko Kl Kd Va).2.2.2.2.2.2.2.2.2) To Tt Td Go Gg Ga Be Bt Si Te Bz Bk) t.heap) (fA 17 ad sz)) 0 0 (fA 17 ad sz) := by
  refine Met.ofW (cc := cX6_add) (maxL := 6) (ret := (some .int)) (by decide) rfl ?_
  intro p e s m args below meth c s₁ B hml hv
  obtain ⟨rfl, hsz, hP, hK⟩ := hv
  have hx := B.exec
  have hb := B.bytes
  have hr := B.returns
  have hts := mW_hts (atoms_spec (ws := (mW yX6_add cX6_add 6 (some .int))) B.pre)
  have hown : s.vm.findClass RX6 = some m.cls := findClass_of_methodNamed B.named
  have hlocks := B.notSynchronized
  subst hsz
  have hA : ∀ (n : Nat) (q : Nat), s.heap.size ≤ n → n ≤ q → fA 17 ad s.heap.size q := fun n q h1 h2 => Or.inr (Nat.le_trans h1 h2)
  have hS : va_S (fA 17 ad s.heap.size) s.heap s.heap [] := va_S.rf
  have hA : ∀ q, s.heap.size ≤ q → (fA 17 ad s.heap.size) q := fun q h => Or.inr h
  unfold S_X6_add at hs
  have hl := lv_entry ([.ref (ad 0), .int a0, .int a1, .long a2, .int a3]) (n := 6) (Nat.le_of_ble_eq_true rfl)
  rw [lg_entry_eq]
  generalize (lg_sl ([.ref (ad 0), .int a0, .int a1, .long a2, .int a3]) ++ List.replicate (6 - (lg_sl ([.ref (ad 0), .int a0, .int a1, .long a2, .int a3])).length) Slot.unset).toArray = ls at hl ⊢
  have hl : lv_has ls 6 [(0, .ref (ad 0)), (1, .int a0), (2, .int a1), (3, .long a2), (5, .int a3)] := hl
  refine W_gen (fun Q9 hQ9 => ?_)
  refine lv_aload_n hx hb dX6_add_0 rfl (lv_at hl 0 rfl) ?_
  refine lv_iload_n hx hb dX6_add_1 rfl (lv_at hl 1 rfl) ?_
  refine lv_i2l hx hb dX6_add_2 rfl ?_
  refine lv_lconst (v := 0) hx hb dX6_add_3 (by decide) ?_
  refine lv_ldc2 hx hb hown (hts _ mK_RX6_121) dX6_add_4 ?_
  refine q_X6_in hx hb hml hown hts mM_RX6_67 ⟨Nat.le_of_ble_eq_true rfl, Nat.le_of_ble_eq_true rfl⟩ ⟨Nat.le_of_ble_eq_true rfl, Nat.le_of_ble_eq_true rfl⟩ hl.1 (Nat.le_of_ble_eq_true rfl) hS dX6_add_7 hA a0.toInt64 (0 : Int64) (2 : Int64) (fun locs hS => ?_)
  refine lv_if_ne (tgt := 17) hx hb dX6_add_10 (by decide) (fun c1 => ?_) (fun c1 => ?_)
  · have hs := hs.2 c1
    refine lv_iload_n hx hb dX6_add_17 rfl (lv_at hl 2 rfl) ?_
    refine q_X6_isRegister hx hb hml hown hts mM_RX6_114 ⟨Nat.le_of_ble_eq_true rfl, Nat.le_of_ble_eq_true rfl⟩ ⟨Nat.le_of_ble_eq_true rfl, Nat.le_of_ble_eq_true rfl⟩ hl.1 (Nat.le_of_ble_eq_true rfl) hS dX6_add_18 hA a1 (fun locs hS => ?_)
    refine lv_if_eq (tgt := 40) hx hb dX6_add_21 (by decide) (fun c2 => ?_) (fun c2 => ?_)
    · have hs := hs.1 c2
      refine lv_iconst (v := 2) hx hb dX6_add_40 (by decide) ?_
      refine lv_goto (tgt := 45) hx hb dX6_add_41 (by decide) ?_
      refine va_put (D := (dC, dI)) (ci := 8) (v := .int (2 : Int32)) (ty := .int) (C := RX6) (T := TX6) (N := 24) hx hb hts iW_X6 tyX6 tyX6_ok nmX6 hown hK hP (fA_D hi rfl) hS 0 rfl rfl 0 (by decide) (hts _ mF_RX6_61) (fun _ h9 => h9) rfl (by decide +kernel) rfl rfl (Nat.le_of_ble_eq_true rfl) dX6_add_45 (fun H locs hP _ hS => ?_)
      have hP : va_P (dC, dI) vwCl (wM ad cI cJ (2 : Int32) Ce Le De Ke Kc Ko Kl Kd Ug Ur Va To Tt Td Go Gg Ga Be Bt Si Te Bz Bk) H := hP
      refine lv_aload_n hx hb dX6_add_48 rfl (lv_at hl 0 rfl) ?_
      refine va_get (D := (dC, dI)) (ci := 8) (v := .int (2 : Int32)) (C := RX6) (T := TX6) (N := 24) hx hb hts iW_X6 hown hK hP 0 rfl rfl 0 (by decide) (hts _ mF_RX6_61) (fun _ h9 => h9) rfl dX6_add_49 ?_
      refine lv_if_le (tgt := 57) hx hb dX6_add_52 (by decide) (fun c3 => ?_) (fun c3 => ?_)
      · exact absurd c3 (by decide)
      · refine lv_iconst (v := 0) hx hb dX6_add_55 (by decide) ?_
        rw [hQ9]
        have hf : f_X6_add a0 a1 a2 a3 Th Ce Le De Ke Kc Ko Kl Kd Va = ((0 : Int32), (2 : Int32), Ce, Le, Ke, Kc, Ko, Kl, Kd, Va) := by simp only [f_X6_add, if_neg c1, if_pos c2]
        exact W.iret (v := (0 : Int32)) hx hb hr (fun t ht hW => ⟨⟨(0 : Int32), (), rfl, by rw [hf], by rw [hf]; show va_P (dC, dI) vwCl _ t.heap; rw [ht]; exact hP⟩, hS.F ht⟩) hS.2.2 dX6_add_56
    · have hs := hs.2 c2
      refine lv_iload_n hx hb dX6_add_24 rfl (lv_at hl 1 rfl) ?_
      refine lv_iconst (v := 2) hx hb dX6_add_25 (by decide) ?_
      refine lv_icmp_ne (tgt := 44) hx hb dX6_add_26 (by decide) (fun c4 => ?_) (fun c4 => ?_)
      · have hs := hs.2 c4
        refine lv_iconst (v := 0) hx hb dX6_add_44 (by decide) ?_
        refine va_put (D := (dC, dI)) (ci := 8) (v := .int (0 : Int32)) (ty := .int) (C := RX6) (T := TX6) (N := 24) hx hb hts iW_X6 tyX6 tyX6_ok nmX6 hown hK hP (fA_D hi rfl) hS 0 rfl rfl 0 (by decide) (hts _ mF_RX6_61) (fun _ h9 => h9) rfl (by decide +kernel) rfl rfl (Nat.le_of_ble_eq_true rfl) dX6_add_45 (fun H locs hP _ hS => ?_)
        have hP : va_P (dC, dI) vwCl (wM ad cI cJ (0 : Int32) Ce Le De Ke Kc Ko Kl Kd Ug Ur Va To Tt Td Go Gg Ga Be Bt Si Te Bz Bk) H := hP
        refine lv_aload_n hx hb dX6_add_48 rfl (lv_at hl 0 rfl) ?_
        refine va_get (D := (dC, dI)) (ci := 8) (v := .int (0 : Int32)) (C := RX6) (T := TX6) (N := 24) hx hb hts iW_X6 hown hK hP 0 rfl rfl 0 (by decide) (hts _ mF_RX6_61) (fun _ h9 => h9) rfl dX6_add_49 ?_
        refine lv_if_le (tgt := 57) hx hb dX6_add_52 (by decide) (fun c5 => ?_) (fun c5 => ?_)
        · refine lv_aload_n hx hb dX6_add_57 rfl (lv_at hl 0 rfl) ?_
          refine lv_iload_n hx hb dX6_add_58 rfl (lv_at hl 1 rfl) ?_
          refine lv_iload_n hx hb dX6_add_59 rfl (lv_at hl 2 rfl) ?_
          obtain ⟨h6, hs⟩ := hs
          obtain ⟨u7, hu7⟩ : ∃ z, z = f_X6_fetch a0 a1 Ce Va := ⟨_, rfl⟩
          have hs := hs u7 hu7
          refine q_X6_fetch hx hb hml hown hts mM_RX6_123 ⟨Nat.le_of_ble_eq_true rfl, Nat.le_of_ble_eq_true rfl⟩ ⟨Nat.le_of_ble_eq_true rfl, Nat.le_of_ble_eq_true rfl⟩ hl.1 (Nat.le_of_ble_eq_true rfl) hS dX6_add_60 (fun _ h9 => fA_mono hS.1 h9) hi hK hP a0 a1 h6 u7 hu7 (fun H locs hP hS => ?_)
          refine lv_iload_n hx hb dX6_add_63 rfl (lv_at hl 1 rfl) ?_
          refine lv_iconst (v := 2) hx hb dX6_add_64 (by decide) ?_
          refine lv_icmp_ne (tgt := 111) hx hb dX6_add_65 (by decide) (fun c8 => ?_) (fun c8 => ?_)
          · refine lv_lload_n hx hb dX6_add_111 rfl (lv_at hl 3 rfl) ?_
            refine lv_ldc2 hx hb hown (hts _ mK_RX6_130) dX6_add_112 ?_
            refine lv_ldc2 hx hb hown (hts _ mK_RX6_132) dX6_add_115 ?_
            refine q_X6_in hx hb hml hown hts mM_RX6_67 ⟨Nat.le_of_ble_eq_true rfl, Nat.le_of_ble_eq_true rfl⟩ ⟨Nat.le_of_ble_eq_true rfl, Nat.le_of_ble_eq_true rfl⟩ hl.1 (Nat.le_of_ble_eq_true rfl) hS dX6_add_118 hA a2 (-6442450941 : Int64) (6442450941 : Int64) (fun locs hS => ?_)
            refine lv_if_eq (tgt := 141) hx hb dX6_add_121 (by decide) (fun c9 => ?_) (fun c9 => ?_)
            · have hs := hs.1 c9
              refine lv_iconst (v := 0) hx hb dX6_add_141 (by decide) ?_
              rw [hQ9]
              have hf : f_X6_add a0 a1 a2 a3 Th Ce Le De Ke Kc Ko Kl Kd Va = ((0 : Int32), (0 : Int32), Ce, Le, Ke, Kc, Ko, Kl, Kd, u7) := by simp only [f_X6_add, if_neg c1, if_neg c2, if_neg c4, ← hu7, if_pos c9]
              exact W.iret (v := (0 : Int32)) hx hb hr (fun t ht hW => ⟨⟨(0 : Int32), (), rfl, by rw [hf], by rw [hf]; show va_P (dC, dI) vwCl _ t.heap; rw [ht]; exact hP⟩, hS.F ht⟩) hS.2.2 dX6_add_142
            · have hs := hs.2 c9
              refine lv_aload_n hx hb dX6_add_124 rfl (lv_at hl 0 rfl) ?_
              refine va_get (D := (dC, dI)) (ci := 8) (v := .ref (ad 9)) (C := RX6) (T := TX6) (N := 24) hx hb hts iW_X6 hown hK hP 0 rfl rfl 11 (by decide) (hts _ mF_RX6_35) (fun _ h9 => h9) rfl dX6_add_125 ?_
              refine lv_iconst (v := 0) hx hb dX6_add_128 (by decide) ?_
              refine lv_aload_n hx hb dX6_add_129 rfl (lv_at hl 0 rfl) ?_
              refine va_get (D := (dC, dI)) (ci := 8) (v := .ref (ad 9)) (C := RX6) (T := TX6) (N := 24) hx hb hts iW_X6 hown hK hP 0 rfl rfl 11 (by decide) (hts _ mF_RX6_35) (fun _ h9 => h9) rfl dX6_add_130 ?_
              refine lv_iconst (v := 0) hx hb dX6_add_133 (by decide) ?_
              obtain ⟨h10, hs⟩ := hs
              refine va_lald hx hb hK hP 9 1 rfl rfl h10 dX6_add_134 ?_
              refine lv_lload_n hx hb dX6_add_135 rfl (lv_at hl 3 rfl) ?_
              refine lv_ladd hx hb dX6_add_136 ?_
              obtain ⟨h11, hs⟩ := hs
              refine va_last hx hb hK hP (fA_D hi rfl) hS 9 1 rfl rfl h11 dX6_add_137 (fun H locs hP _ hS => ?_)
              have hP : va_P (dC, dI) vwCl (wM ad cI cJ (0 : Int32) Ce Le De Ke Kc Ko Kl Kd Ug Ur (vp_updL u7 (0 : Int32).toNatClampNeg ((u7 (0 : Int32).toNatClampNeg) + a2)) To Tt Td Go Gg Ga Be Bt Si Te Bz Bk) H := hP
              refine lv_goto (tgt := 143) hx hb dX6_add_138 (by decide) ?_
              refine lv_aload_n hx hb dX6_add_143 rfl (lv_at hl 0 rfl) ?_
              refine lv_iload_n hx hb dX6_add_144 rfl (lv_at hl 1 rfl) ?_
              refine lv_iload_n hx hb dX6_add_145 rfl (lv_at hl 2 rfl) ?_
              refine lv_iload hx hb dX6_add_146 (lv_at hl 4 rfl) ?_
              refine lv_iconst (v := 3) hx hb dX6_add_148 (by decide) ?_
              obtain ⟨h12, hs⟩ := hs
              obtain ⟨u13, hu13⟩ : ∃ z, z = f_X6_finish a0 a1 a3 (3 : Int32) (0 : Int32) Ce Le De Ke Kc Ko Kl Kd (vp_updL u7 (0 : Int32).toNatClampNeg ((u7 (0 : Int32).toNatClampNeg) + a2)) := ⟨_, rfl⟩
              have hs := hs u13 hu13
              refine q_X6_finish hx hb hml hown hts mM_RX6_117 ⟨Nat.le_of_ble_eq_true rfl, Nat.le_of_ble_eq_true rfl⟩ ⟨Nat.le_of_ble_eq_true rfl, Nat.le_of_ble_eq_true rfl⟩ hl.1 (Nat.le_of_ble_eq_true rfl) hS dX6_add_149 (fun _ h9 => fA_mono hS.1 h9) hi hK hP a0 a1 a3 (3 : Int32) h12 u13 hu13 (fun H locs hP hS => ?_)
              rw [hQ9]
              have hf : f_X6_add a0 a1 a2 a3 Th Ce Le De Ke Kc Ko Kl Kd Va = (u13.1, u13.2.1, u13.2.2.1, u13.2.2.2.1, u13.2.2.2.2.1, u13.2.2.2.2.2.1, u13.2.2.2.2.2.2.1, u13.2.2.2.2.2.2.2.1, u13.2.2.2.2.2.2.2.2, (vp_updL u7 (0 : Int32).toNatClampNeg ((u7 (0 : Int32).toNatClampNeg) + a2))) := by simp only [f_X6_add, if_neg c1, if_neg c2, if_neg c4, ← hu7, if_neg c9, ← hu13]
              exact W.iret (v := u13.1) hx hb hr (fun t ht hW => ⟨⟨u13.1, (), rfl, by rw [hf], by rw [hf]; show va_P (dC, dI) vwCl _ t.heap; rw [ht]; exact hP⟩, hS.F ht⟩) hS.2.2 dX6_add_152
          · exact absurd c8 c4
        · exact absurd (by decide) c5
      · have hs := hs.1 c4
        refine lv_lload_n hx hb dX6_add_29 rfl (lv_at hl 3 rfl) ?_
        refine lv_lconst (v := 0) hx hb dX6_add_30 (by decide) ?_
        refine lv_ldc2 hx hb hown (hts _ mK_RX6_71) dX6_add_31 ?_
        refine q_X6_in hx hb hml hown hts mM_RX6_67 ⟨Nat.le_of_ble_eq_true rfl, Nat.le_of_ble_eq_true rfl⟩ ⟨Nat.le_of_ble_eq_true rfl, Nat.le_of_ble_eq_true rfl⟩ hl.1 (Nat.le_of_ble_eq_true rfl) hS dX6_add_34 hA a2 (0 : Int64) (31 : Int64) (fun locs hS => ?_)
        refine lv_if_ne (tgt := 44) hx hb dX6_add_37 (by decide) (fun c14 => ?_) (fun c14 => ?_)
        · have hs := hs.2 c14
          refine lv_iconst (v := 0) hx hb dX6_add_44 (by decide) ?_
          refine va_put (D := (dC, dI)) (ci := 8) (v := .int (0 : Int32)) (ty := .int) (C := RX6) (T := TX6) (N := 24) hx hb hts iW_X6 tyX6 tyX6_ok nmX6 hown hK hP (fA_D hi rfl) hS 0 rfl rfl 0 (by decide) (hts _ mF_RX6_61) (fun _ h9 => h9) rfl (by decide +kernel) rfl rfl (Nat.le_of_ble_eq_true rfl) dX6_add_45 (fun H locs hP _ hS => ?_)
          have hP : va_P (dC, dI) vwCl (wM ad cI cJ (0 : Int32) Ce Le De Ke Kc Ko Kl Kd Ug Ur Va To Tt Td Go Gg Ga Be Bt Si Te Bz Bk) H := hP
          refine lv_aload_n hx hb dX6_add_48 rfl (lv_at hl 0 rfl) ?_
          refine va_get (D := (dC, dI)) (ci := 8) (v := .int (0 : Int32)) (C := RX6) (T := TX6) (N := 24) hx hb hts iW_X6 hown hK hP 0 rfl rfl 0 (by decide) (hts _ mF_RX6_61) (fun _ h9 => h9) rfl dX6_add_49 ?_
          refine lv_if_le (tgt := 57) hx hb dX6_add_52 (by decide) (fun c15 => ?_) (fun c15 => ?_)
          · refine lv_aload_n hx hb dX6_add_57 rfl (lv_at hl 0 rfl) ?_
            refine lv_iload_n hx hb dX6_add_58 rfl (lv_at hl 1 rfl) ?_
            refine lv_iload_n hx hb dX6_add_59 rfl (lv_at hl 2 rfl) ?_
            obtain ⟨h16, hs⟩ := hs
            obtain ⟨u17, hu17⟩ : ∃ z, z = f_X6_fetch a0 a1 Ce Va := ⟨_, rfl⟩
            have hs := hs u17 hu17
            refine q_X6_fetch hx hb hml hown hts mM_RX6_123 ⟨Nat.le_of_ble_eq_true rfl, Nat.le_of_ble_eq_true rfl⟩ ⟨Nat.le_of_ble_eq_true rfl, Nat.le_of_ble_eq_true rfl⟩ hl.1 (Nat.le_of_ble_eq_true rfl) hS dX6_add_60 (fun _ h9 => fA_mono hS.1 h9) hi hK hP a0 a1 h16 u17 hu17 (fun H locs hP hS => ?_)
            refine lv_iload_n hx hb dX6_add_63 rfl (lv_at hl 1 rfl) ?_
            refine lv_iconst (v := 2) hx hb dX6_add_64 (by decide) ?_
            refine lv_icmp_ne (tgt := 111) hx hb dX6_add_65 (by decide) (fun c18 => ?_) (fun c18 => ?_)
            · exact absurd c4 c18
            · refine lv_aload_n hx hb dX6_add_68 rfl (lv_at hl 0 rfl) ?_
              refine va_get (D := (dC, dI)) (ci := 8) (v := .ref (ad 9)) (C := RX6) (T := TX6) (N := 24) hx hb hts iW_X6 hown hK hP 0 rfl rfl 11 (by decide) (hts _ mF_RX6_35) (fun _ h9 => h9) rfl dX6_add_69 ?_
              refine lv_iconst (v := 0) hx hb dX6_add_72 (by decide) ?_
              refine lv_aload_n hx hb dX6_add_73 rfl (lv_at hl 0 rfl) ?_
              refine va_get (D := (dC, dI)) (ci := 8) (v := .ref (ad 9)) (C := RX6) (T := TX6) (N := 24) hx hb hts iW_X6 hown hK hP 0 rfl rfl 11 (by decide) (hts _ mF_RX6_35) (fun _ h9 => h9) rfl dX6_add_74 ?_
              refine lv_iconst (v := 0) hx hb dX6_add_77 (by decide) ?_
              obtain ⟨h19, hs⟩ := hs
              refine va_lald hx hb hK hP 9 1 rfl rfl h19 dX6_add_78 ?_
              refine lv_aload_n hx hb dX6_add_79 rfl (lv_at hl 0 rfl) ?_
              refine va_get (D := (dC, dI)) (ci := 8) (v := .ref (ad 1)) (C := RX6) (T := TX6) (N := 24) hx hb hts iW_X6 hown hK hP 0 rfl rfl 1 (by decide) (hts _ mF_RX6_7) (fun _ h9 => h9) rfl dX6_add_80 ?_
              refine lv_bipush (v := 21) hx hb dX6_add_83 (by decide) ?_
              refine lv_bipush (v := 64) hx hb dX6_add_85 (by decide) ?_
              refine lv_lload_n hx hb dX6_add_87 rfl (lv_at hl 3 rfl) ?_
              refine lv_l2i hx hb dX6_add_88 rfl ?_
              refine lv_iadd hx hb dX6_add_89 ?_
              refine lv_imul hx hb dX6_add_90 ?_
              obtain ⟨h20, hs⟩ := hs
              refine va_lald hx hb hK hP 1 1 rfl rfl h20 dX6_add_91 ?_
              refine lv_ladd hx hb dX6_add_92 ?_
              obtain ⟨h21, hs⟩ := hs
              refine va_last hx hb hK hP (fA_D hi rfl) hS 9 1 rfl rfl h21 dX6_add_93 (fun H locs hP _ hS => ?_)
              have hP : va_P (dC, dI) vwCl (wM ad cI cJ (0 : Int32) Ce Le De Ke Kc Ko Kl Kd Ug Ur (vp_updL u17 (0 : Int32).toNatClampNeg ((u17 (0 : Int32).toNatClampNeg) + (Ce ((21 : Int32) * ((64 : Int32) + a2.toInt32)).toNatClampNeg))) To Tt Td Go Gg Ga Be Bt Si Te Bz Bk) H := hP
              refine lv_aload_n hx hb dX6_add_94 rfl (lv_at hl 0 rfl) ?_
              refine lv_lload_n hx hb dX6_add_95 rfl (lv_at hl 3 rfl) ?_
              refine lv_l2i hx hb dX6_add_96 rfl ?_
              refine lv_iconst (v := 1) hx hb dX6_add_97 (by decide) ?_
              obtain ⟨h22, hs⟩ := hs
              obtain ⟨u23, hu23⟩ : ∃ z, z = f_X6_addPart a2.toInt32 (1 : Int32) Ce (vp_updL u17 (0 : Int32).toNatClampNeg ((u17 (0 : Int32).toNatClampNeg) + (Ce ((21 : Int32) * ((64 : Int32) + a2.toInt32)).toNatClampNeg))) := ⟨_, rfl⟩
              have hs := hs u23 hu23
              refine q_X6_addPart hx hb hml hown hts mM_RX6_127 ⟨Nat.le_of_ble_eq_true rfl, Nat.le_of_ble_eq_true rfl⟩ ⟨Nat.le_of_ble_eq_true rfl, Nat.le_of_ble_eq_true rfl⟩ hl.1 (Nat.le_of_ble_eq_true rfl) hS dX6_add_98 (fun _ h9 => fA_mono hS.1 h9) hi hK hP a2.toInt32 (1 : Int32) h22 u23 hu23 (fun H locs hP hS => ?_)
              refine lv_aload_n hx hb dX6_add_101 rfl (lv_at hl 0 rfl) ?_
              refine lv_lload_n hx hb dX6_add_102 rfl (lv_at hl 3 rfl) ?_
              refine lv_l2i hx hb dX6_add_103 rfl ?_
              refine lv_iconst (v := 3) hx hb dX6_add_104 (by decide) ?_
              obtain ⟨h24, hs⟩ := hs
              obtain ⟨u25, hu25⟩ : ∃ z, z = f_X6_addPart a2.toInt32 (3 : Int32) Ce u23 := ⟨_, rfl⟩
              have hs := hs u25 hu25
              refine q_X6_addPart hx hb hml hown hts mM_RX6_127 ⟨Nat.le_of_ble_eq_true rfl, Nat.le_of_ble_eq_true rfl⟩ ⟨Nat.le_of_ble_eq_true rfl, Nat.le_of_ble_eq_true rfl⟩ hl.1 (Nat.le_of_ble_eq_true rfl) hS dX6_add_105 (fun _ h9 => fA_mono hS.1 h9) hi hK hP a2.toInt32 (3 : Int32) h24 u25 hu25 (fun H locs hP hS => ?_)
              refine lv_goto (tgt := 143) hx hb dX6_add_108 (by decide) ?_
              refine lv_aload_n hx hb dX6_add_143 rfl (lv_at hl 0 rfl) ?_
              refine lv_iload_n hx hb dX6_add_144 rfl (lv_at hl 1 rfl) ?_
              refine lv_iload_n hx hb dX6_add_145 rfl (lv_at hl 2 rfl) ?_
              refine lv_iload hx hb dX6_add_146 (lv_at hl 4 rfl) ?_
              refine lv_iconst (v := 3) hx hb dX6_add_148 (by decide) ?_
              obtain ⟨h26, hs⟩ := hs
              obtain ⟨u27, hu27⟩ : ∃ z, z = f_X6_finish a0 a1 a3 (3 : Int32) (0 : Int32) Ce Le De Ke Kc Ko Kl Kd u25 := ⟨_, rfl⟩
              have hs := hs u27 hu27
              refine q_X6_finish hx hb hml hown hts mM_RX6_117 ⟨Nat.le_of_ble_eq_true rfl, Nat.le_of_ble_eq_true rfl⟩ ⟨Nat.le_of_ble_eq_true rfl, Nat.le_of_ble_eq_true rfl⟩ hl.1 (Nat.le_of_ble_eq_true rfl) hS dX6_add_149 (fun _ h9 => fA_mono hS.1 h9) hi hK hP a0 a1 a3 (3 : Int32) h26 u27 hu27 (fun H locs hP hS => ?_)
              rw [hQ9]
              have hf : f_X6_add a0 a1 a2 a3 Th Ce Le De Ke Kc Ko Kl Kd Va = (u27.1, u27.2.1, u27.2.2.1, u27.2.2.2.1, u27.2.2.2.2.1, u27.2.2.2.2.2.1, u27.2.2.2.2.2.2.1, u27.2.2.2.2.2.2.2.1, u27.2.2.2.2.2.2.2.2, u25) := by simp only [f_X6_add, if_neg c1, if_neg c2, if_pos c4, if_neg c14, ← hu17, ← hu23, ← hu25, ← hu27]
              exact W.iret (v := u27.1) hx hb hr (fun t ht hW => ⟨⟨u27.1, (), rfl, by rw [hf], by rw [hf]; show va_P (dC, dI) vwCl _ t.heap; rw [ht]; exact hP⟩, hS.F ht⟩) hS.2.2 dX6_add_152
          · exact absurd (by decide) c15
        · have hs := hs.1 c14
          refine lv_iconst (v := 2) hx hb dX6_add_40 (by decide) ?_
          refine lv_goto (tgt := 45) hx hb dX6_add_41 (by decide) ?_
          refine va_put (D := (dC, dI)) (ci := 8) (v := .int (2 : Int32)) (ty := .int) (C := RX6) (T := TX6) (N := 24) hx hb hts iW_X6 tyX6 tyX6_ok nmX6 hown hK hP (fA_D hi rfl) hS 0 rfl rfl 0 (by decide) (hts _ mF_RX6_61) (fun _ h9 => h9) rfl (by decide +kernel) rfl rfl (Nat.le_of_ble_eq_true rfl) dX6_add_45 (fun H locs hP _ hS => ?_)
          have hP : va_P (dC, dI) vwCl (wM ad cI cJ (2 : Int32) Ce Le De Ke Kc Ko Kl Kd Ug Ur Va To Tt Td Go Gg Ga Be Bt Si Te Bz Bk) H := hP
          refine lv_aload_n hx hb dX6_add_48 rfl (lv_at hl 0 rfl) ?_
          refine va_get (D := (dC, dI)) (ci := 8) (v := .int (2 : Int32)) (C := RX6) (T := TX6) (N := 24) hx hb hts iW_X6 hown hK hP 0 rfl rfl 0 (by decide) (hts _ mF_RX6_61) (fun _ h9 => h9) rfl dX6_add_49 ?_
          refine lv_if_le (tgt := 57) hx hb dX6_add_52 (by decide) (fun c28 => ?_) (fun c28 => ?_)
          · exact absurd c28 (by decide)
          · refine lv_iconst (v := 0) hx hb dX6_add_55 (by decide) ?_
            rw [hQ9]
            have hf : f_X6_add a0 a1 a2 a3 Th Ce Le De Ke Kc Ko Kl Kd Va = ((0 : Int32), (2 : Int32), Ce, Le, Ke, Kc, Ko, Kl, Kd, Va) := by simp only [f_X6_add, if_neg c1, if_neg c2, if_pos c4, if_pos c14]
            exact W.iret (v := (0 : Int32)) hx hb hr (fun t ht hW => ⟨⟨(0 : Int32), (), rfl, by rw [hf], by rw [hf]; show va_P (dC, dI) vwCl _ t.heap; rw [ht]; exact hP⟩, hS.F ht⟩) hS.2.2 dX6_add_56
  · have hs := hs.1 c1
    refine lv_iconst (v := 1) hx hb dX6_add_13 (by decide) ?_
    refine lv_goto (tgt := 45) hx hb dX6_add_14 (by decide) ?_
    refine va_put (D := (dC, dI)) (ci := 8) (v := .int (1 : Int32)) (ty := .int) (C := RX6) (T := TX6) (N := 24) hx hb hts iW_X6 tyX6 tyX6_ok nmX6 hown hK hP (fA_D hi rfl) hS 0 rfl rfl 0 (by decide) (hts _ mF_RX6_61) (fun _ h9 => h9) rfl (by decide +kernel) rfl rfl (Nat.le_of_ble_eq_true rfl) dX6_add_45 (fun H locs hP _ hS => ?_)
    have hP : va_P (dC, dI) vwCl (wM ad cI cJ (1 : Int32) Ce Le De Ke Kc Ko Kl Kd Ug Ur Va To Tt Td Go Gg Ga Be Bt Si Te Bz Bk) H := hP
    refine lv_aload_n hx hb dX6_add_48 rfl (lv_at hl 0 rfl) ?_
    refine va_get (D := (dC, dI)) (ci := 8) (v := .int (1 : Int32)) (C := RX6) (T := TX6) (N := 24) hx hb hts iW_X6 hown hK hP 0 rfl rfl 0 (by decide) (hts _ mF_RX6_61) (fun _ h9 => h9) rfl dX6_add_49 ?_
    refine lv_if_le (tgt := 57) hx hb dX6_add_52 (by decide) (fun c29 => ?_) (fun c29 => ?_)
    · exact absurd c29 (by decide)
    · refine lv_iconst (v := 0) hx hb dX6_add_55 (by decide) ?_
      rw [hQ9]
      have hf : f_X6_add a0 a1 a2 a3 Th Ce Le De Ke Kc Ko Kl Kd Va = ((0 : Int32), (1 : Int32), Ce, Le, Ke, Kc, Ko, Kl, Kd, Va) := by simp only [f_X6_add, if_pos c1]
      exact W.iret (v := (0 : Int32)) hx hb hr (fun t ht hW => ⟨⟨(0 : Int32), (), rfl, by rw [hf], by rw [hf]; show va_P (dC, dI) vwCl _ t.heap; rw [ht]; exact hP⟩, hS.F ht⟩) hS.2.2 dX6_add_56
theorem q_X6_add {p : Program} {l : Launch} {e : Env} {R : Room} {s : State} {m : MethodId} {args : Array Value} {below : List Frame} {meth : Method} {c : Code} {H : Heap} {locs : List Loc} {cells slots : Nat} {Q : State → Prop} {pc : Nat} {ls : Array Slot} {rest : List Value} {cc : ByteArray} {nL idx : Nat} {own : String} {A0 : Nat → Prop} {dC : Nat → ClassId} {dI : Nat → Nat → Nat} {cI cJ : ClassId} {ad : Nat → Nat} {Th : Int32} {Ce : Nat → Int64} {Le : Nat → Int32} {De : Int32} {Ke : Int32} {Kc : Nat → Int64} {Ko : Nat → Int32} {Kl : Nat → Int32} {Kd : Nat → Int32} {Ug : Nat → Int64} {Ur : Nat → Int64} {Va : Nat → Int64} {To : Int32} {Tt : Nat → Int32} {Td : Nat → Int32} {Go : Int32} {Gg : Nat → Int32} {Ga : Nat → Int32} {Be : Int32} {Bt : Nat → Int32} {Si : Int32} {Te : Nat → Int32} {Bz : Int32} {Bk : Nat → Int32} (hx : p.tables.exec = Jvm.exec) (hb : c.code = cc) (hml : c.maxLocals = nL) (hown : s.vm.findClass own = some m.cls) (hts : ∀ w ∈ bigW, w.before args s = true) (hlk : Cond.methodLink own idx yX6_add ∈ bigW) (hR : 5 ≤ R.frames ∧ 117 ≤ R.locals) (hf : cells + 0 ≤ R.cells ∧ slots + 0 ≤ R.slots) (hz : ls.size = nL) (hw : (rest.map fun v => v.category).sum ≤ 8) (hS : va_S A0 s.heap H locs) (hd : decode cc pc = .ok (.invokevirtual idx, 3)) (hA : ∀ q, fA 17 ad H.size q → A0 q) (hi : fI 17 ad) (hK : va_K (dC, dI) vwCl [(cI, .int), (cJ, .long)] s) (hP : va_P (dC, dI) vwCl (wM ad cI cJ Th Ce Le De Ke Kc Ko Kl Kd Ug Ur Va To Tt Td Go Gg Ga Be Bt Si Te Bz Bk) H) (a0 : Int32) (a1 : Int32) (a2 : Int64) (a3 : Int32) (hs : S_X6_add a0 a1 a2 a3 Th Ce Le De Ke Kc Ko Kl Kd Va)  (u : Int32 × Int32 × (Nat → Int64) × (Nat → Int32) × Int32 × (Nat → Int64) × (Nat → Int32) × (Nat → Int32) × (Nat → Int32) × (Nat → Int64)) (hu : u = f_X6_add a0 a1 a2 a3 Th Ce Le De Ke Kc Ko Kl Kd Va) (k : ∀ (H1 : Heap) (locs1 : List Loc), va_P (dC, dI) vwCl (wM ad cI cJ u.2.1 u.2.2.1 u.2.2.2.1 De u.2.2.2.2.1 u.2.2.2.2.2.1 u.2.2.2.2.2.2.1 u.2.2.2.2.2.2.2.1 u.2.2.2.2.2.2.2.2.1 Ug Ur u.2.2.2.2.2.2.2.2.2 To Tt Td Go Gg Ga Be Bt Si Te Bz Bk) H1 → va_S A0 s.heap H1 locs1 → W p l e R s m args below meth c H1 locs1 (cells + 0) (slots + 0) Q (F0 m (pc + 3) ls (.int u.1 :: rest))) : W p l e R s m args below meth c H locs cells slots Q (F0 m pc ls (.int a3 :: .long a2 :: .int a1 :: .int a0 :: .ref (ad 0) :: rest)) := by
  subst hu
  exact va_calli (va_runV (As := [.int a0, .int a1, .long a2, .int a3]) (rest := rest) ⟨hx, hb, hml, hown, hts⟩ (c_X6_add l dC dI cI cJ ad hi H.size Th Ce Le De Ke Kc Ko Kl Kd Ug Ur Va To Tt Td Go Gg Ga Be Bt Si Te Bz Bk a0 a1 a2 a3 hs) (kV 4 hts hlk mI_X6_add mN_RX6 mY_X6_add mV_X6_add rfl rfl (by decide +kernel) hR) ⟨fun a U g mk q => ⟨q.1, q.2.1, q.2.2.1, va_K.moved (u := U) (U := U.calling g mk a) (Vm.Alike.refl U.vm) q.2.2.2⟩, va_recv hK hP (ci := 8) (q0 := 0) rfl rfl, fun U hU hW => ⟨rfl, by rw [hU], by rw [hU]; exact hP, va_K.moved hW.alike hK⟩⟩ rfl rfl hz rfl (lv_room hw) hd hf) hS (fun q _ h => hA q h) (fun q h => hA q h) (fun r u t H1 locs1 ht hvm hw9 hB hz1 hk1 hS1 => by
    subst hw9
    exact k H1 locs1 (by rw [← ht]; exact hB) hS1)
theorem qf_X6_add {p : Program} {l : Launch} {e : Env} {R : Room} {s : State} {m : MethodId} {args : Array Value} {below : List Frame} {meth : Method} {c : Code} {H : Heap} {locs : List Loc} {cells slots : Nat} {Q : State → Prop} {pc : Nat} {ls : Array Slot} {rest : List Value} {cc : ByteArray} {nL idx : Nat} {own : String} {A0 : Nat → Prop} {dC : Nat → ClassId} {dI : Nat → Nat → Nat} {cI cJ : ClassId} {ad : Nat → Nat} {Th : Int32} {Ce : Nat → Int64} {Le : Nat → Int32} {De : Int32} {Ke : Int32} {Kc : Nat → Int64} {Ko : Nat → Int32} {Kl : Nat → Int32} {Kd : Nat → Int32} {Ug : Nat → Int64} {Ur : Nat → Int64} {Va : Nat → Int64} {To : Int32} {Tt : Nat → Int32} {Td : Nat → Int32} {Go : Int32} {Gg : Nat → Int32} {Ga : Nat → Int32} {Be : Int32} {Bt : Nat → Int32} {Si : Int32} {Te : Nat → Int32} {Bz : Int32} {Bk : Nat → Int32} (hx : p.tables.exec = Jvm.exec) (hb : c.code = cc) (hml : c.maxLocals = nL) (hown : s.vm.findClass own = some m.cls) (hts : ∀ w ∈ bigW, w.before args s = true) (hlk : Cond.methodLink own idx yX6_add ∈ bigW) (hR : 5 ≤ R.frames ∧ 117 ≤ R.locals) (hf : cells + 0 ≤ R.cells ∧ slots + 0 ≤ R.slots) (hz : ls.size = nL) (hw : (rest.map fun v => v.category).sum ≤ 8) (hS : va_S A0 s.heap H locs) (hd : decode cc pc = .ok (.invokevirtual idx, 3)) (hA : ∀ q, fA 17 ad H.size q → A0 q) (hi : fI 17 ad) (hK : va_K (dC, dI) vwCl [(cI, .int), (cJ, .long)] s) (hP : va_P (dC, dI) vwCl (wM ad cI cJ Th Ce Le De Ke Kc Ko Kl Kd Ug Ur Va To Tt Td Go Gg Ga Be Bt Si Te Bz Bk) H) (a0 : Int32) (a1 : Int32) (a2 : Int64) (a3 : Int32) (hs : S_X6_add a0 a1 a2 a3 Th Ce Le De Ke Kc Ko Kl Kd Va)  (u : Int32 × Int32 × (Nat → Int64) × (Nat → Int32) × Int32 × (Nat → Int64) × (Nat → Int32) × (Nat → Int32) × (Nat → Int32) × (Nat → Int64)) (hu : u = f_X6_add a0 a1 a2 a3 Th Ce Le De Ke Kc Ko Kl Kd Va) (k : ∀ (H1 : Heap) (locs1 : List Loc), va_P (dC, dI) vwCl (wM ad cI cJ u.2.1 u.2.2.1 u.2.2.2.1 De u.2.2.2.2.1 u.2.2.2.2.2.1 u.2.2.2.2.2.2.1 u.2.2.2.2.2.2.2.1 u.2.2.2.2.2.2.2.2.1 Ug Ur u.2.2.2.2.2.2.2.2.2 To Tt Td Go Gg Ga Be Bt Si Te Bz Bk) H1 → va_S A0 s.heap H1 locs1 → (∀ q : Nat, q < H.size → ¬ fA 17 ad H.size q → H1[q]? = H[q]?) → H.size ≤ H1.size → W p l e R s m args below meth c H1 locs1 (cells + 0) (slots + 0) Q (F0 m (pc + 3) ls (.int u.1 :: rest))) : W p l e R s m args below meth c H locs cells slots Q (F0 m pc ls (.int a3 :: .long a2 :: .int a1 :: .int a0 :: .ref (ad 0) :: rest)) := by
  subst hu
  exact va_calli (va_runV (As := [.int a0, .int a1, .long a2, .int a3]) (rest := rest) ⟨hx, hb, hml, hown, hts⟩ (c_X6_add l dC dI cI cJ ad hi H.size Th Ce Le De Ke Kc Ko Kl Kd Ug Ur Va To Tt Td Go Gg Ga Be Bt Si Te Bz Bk a0 a1 a2 a3 hs) (kV 4 hts hlk mI_X6_add mN_RX6 mY_X6_add mV_X6_add rfl rfl (by decide +kernel) hR) ⟨fun a U g mk q => ⟨q.1, q.2.1, q.2.2.1, va_K.moved (u := U) (U := U.calling g mk a) (Vm.Alike.refl U.vm) q.2.2.2⟩, va_recv hK hP (ci := 8) (q0 := 0) rfl rfl, fun U hU hW => ⟨rfl, by rw [hU], by rw [hU]; exact hP, va_K.moved hW.alike hK⟩⟩ rfl rfl hz rfl (lv_room hw) hd hf) hS (fun q _ h => hA q h) (fun q h => hA q h) (fun r u t H1 locs1 ht hvm hw9 hB hz1 hk1 hS1 => by
    subst hw9
    exact k H1 locs1 (by rw [← ht]; exact hB) hS1 hk1 hz1)

def L_X6_scale_3 : Nat → Int32 → (Nat → Int64) → Int32 → Int64 → Int32 → Int32 × (Nat → Int64)
  | 0, x5, Va, x1, x2, x4 => (x5, Va)
  | n + 1, x5, Va, x1, x2, x4 => (if (4 : Int32) ≤ x5 then (x5, Va) else (if x5 = 0 then (if x4 = 0 then L_X6_scale_3 n (x5 + 1) (vp_updL Va x5.toNatClampNeg ((Va x5.toNatClampNeg) * x2)) x1 x2 x4 else L_X6_scale_3 n (x5 + 1) (vp_updL Va x5.toNatClampNeg ((Va x5.toNatClampNeg) / x2)) x1 x2 x4) else (if x1 = (2 : Int32) then (if x5 = (2 : Int32) then L_X6_scale_3 n (x5 + 1) Va x1 x2 x4 else (if x4 = 0 then L_X6_scale_3 n (x5 + 1) (vp_updL Va x5.toNatClampNeg ((Va x5.toNatClampNeg) * x2)) x1 x2 x4 else L_X6_scale_3 n (x5 + 1) (vp_updL Va x5.toNatClampNeg ((Va x5.toNatClampNeg) / x2)) x1 x2 x4)) else L_X6_scale_3 n (x5 + 1) Va x1 x2 x4)))
def SL_X6_scale_3 : Nat → Int32 → (Nat → Int64) → Int32 → Int64 → Int32 → Prop
  | 0, _, _, _, _, _ => False
  | n + 1, x5, Va, x1, x2, x4 => ((4 : Int32) ≤ x5 → (True)) ∧ (¬ (4 : Int32) ≤ x5 → ((x5 = 0 → ((x4 = 0 → ((vp_in x5 21) ∧ ((vp_in x5 21) ∧ (SL_X6_scale_3 n (x5 + 1) (vp_updL Va x5.toNatClampNeg ((Va x5.toNatClampNeg) * x2)) x1 x2 x4)))) ∧ (¬ x4 = 0 → ((vp_in x5 21) ∧ ((¬ x2 = 0) ∧ ((vp_in x5 21) ∧ (SL_X6_scale_3 n (x5 + 1) (vp_updL Va x5.toNatClampNeg ((Va x5.toNatClampNeg) / x2)) x1 x2 x4))))))) ∧ (¬ x5 = 0 → ((x1 = (2 : Int32) → ((x5 = (2 : Int32) → (SL_X6_scale_3 n (x5 + 1) Va x1 x2 x4)) ∧ (¬ x5 = (2 : Int32) → ((x4 = 0 → ((vp_in x5 21) ∧ ((vp_in x5 21) ∧ (SL_X6_scale_3 n (x5 + 1) (vp_updL Va x5.toNatClampNeg ((Va x5.toNatClampNeg) * x2)) x1 x2 x4)))) ∧ (¬ x4 = 0 → ((vp_in x5 21) ∧ ((¬ x2 = 0) ∧ ((vp_in x5 21) ∧ (SL_X6_scale_3 n (x5 + 1) (vp_updL Va x5.toNatClampNeg ((Va x5.toNatClampNeg) / x2)) x1 x2 x4))))))))) ∧ (¬ x1 = (2 : Int32) → (SL_X6_scale_3 n (x5 + 1) Va x1 x2 x4))))))
def f_X6_scale (a0 : Int32) (a1 : Int64) (a2 : Int32) (Va : Nat → Int64) : (Nat → Int64) := (let u1 := L_X6_scale_3 5 (0 : Int32) Va a0 a1 a2; u1.2)
def S_X6_scale (a0 : Int32) (a1 : Int64) (a2 : Int32) (Va : Nat → Int64) : Prop := (SL_X6_scale_3 5 (0 : Int32) Va a0 a1 a2) ∧ (∀ u1, u1 = L_X6_scale_3 5 (0 : Int32) Va a0 a1 a2 → (True))
set_option maxHeartbeats 4000000 in
set_option maxRecDepth 100000 in
theorem c_X6_scale (l : Launch) (dC : Nat → ClassId) (dI : Nat → Nat → Nat) (cI cJ : ClassId) (ad : Nat → Nat) (hi : fI 17 ad) (sz : Nat) (Th : Int32) (Ce : Nat → Int64) (Le : Nat → Int32) (De : Int32) (Ke : Int32) (Kc : Nat → Int64) (Ko : Nat → Int32) (Kl : Nat → Int32) (Kd : Nat → Int32) (Ug : Nat → Int64) (Ur : Nat → Int64) (Va : Nat → Int64) (To : Int32) (Tt : Nat → Int32) (Td : Nat → Int32) (Go : Int32) (Gg : Nat → Int32) (Ga : Nat → Int32) (Be : Int32) (Bt : Nat → Int32) (Si : Int32) (Te : Nat → Int32) (Bz : Int32) (Bk : Nat → Int32) (a0 : Int32) (a1 : Int64) (a2 : Int32) (hs : S_X6_scale a0 a1 a2 Va) : Met l yX6_scale (mW yX6_scale cX6_scale 6 none) { frames := 0, cells := 0, slots := 0, locals := 0 } (va_Pc [.ref (ad 0), .int a0, .long a1, .int a2] (fun U => U.heap.size = sz ∧ va_P (dC, dI) vwCl (wM ad cI cJ Th Ce Le De Ke Kc Ko Kl Kd Ug Ur Va To Tt Td Go Gg Ga Be Bt Si Te Bz Bk) U.heap ∧ va_K (dC, dI) vwCl [(cI, .int), (cJ, .long)] U)) (va_Qv (fun (_ : Unit) => True) (fun _ t => va_P (dC, dI) vwCl (wM ad cI cJ Th Ce Le De Ke Kc Ko Kl Kd Ug Ur (f_X6_scale a0 a1 a2 Va) To Tt Td Go Gg Ga Be Bt Si Te Bz Bk) t.heap) (fA 17 ad sz)) 0 0 (fA 17 ad sz) := by
  refine Met.ofW (cc := cX6_scale) (maxL := 6) (ret := none) (by decide) rfl ?_
  intro p e s m args below meth c s₁ B hml hv
  obtain ⟨rfl, hsz, hP, hK⟩ := hv
  have hx := B.exec
  have hb := B.bytes
  have hr := B.returns
  have hts := mW_hts (atoms_spec (ws := (mW yX6_scale cX6_scale 6 none)) B.pre)
  have hown : s.vm.findClass RX6 = some m.cls := findClass_of_methodNamed B.named
  have hlocks := B.notSynchronized
  subst hsz
  have hA : ∀ (n : Nat) (q : Nat), s.heap.size ≤ n → n ≤ q → fA 17 ad s.heap.size q := fun n q h1 h2 => Or.inr (Nat.le_trans h1 h2)
  have hS : va_S (fA 17 ad s.heap.size) s.heap s.heap [] := va_S.rf
  have hA : ∀ q, s.heap.size ≤ q → (fA 17 ad s.heap.size) q := fun q h => Or.inr h
  unfold S_X6_scale at hs
  have hl := lv_entry ([.ref (ad 0), .int a0, .long a1, .int a2]) (n := 6) (Nat.le_of_ble_eq_true rfl)
  rw [lg_entry_eq]
  generalize (lg_sl ([.ref (ad 0), .int a0, .long a1, .int a2]) ++ List.replicate (6 - (lg_sl ([.ref (ad 0), .int a0, .long a1, .int a2])).length) Slot.unset).toArray = ls at hl ⊢
  have hl : lv_has ls 6 [(0, .ref (ad 0)), (1, .int a0), (2, .long a1), (4, .int a2)] := hl
  refine W_gen (fun Q9 hQ9 => ?_)
  refine lv_iconst (v := 0) hx hb dX6_scale_0 (by decide) ?_
  refine lv_istore (lv' := [(5, .int (0 : Int32)), (0, .ref (ad 0)), (1, .int a0), (2, .long a1), (4, .int a2)]) hx hb dX6_scale_1 hl (by decide) rfl (fun ls hl => ?_)
  obtain ⟨h2, hs⟩ := hs
  obtain ⟨u1, hu1⟩ : ∃ z, z = L_X6_scale_3 5 (0 : Int32) Va a0 a1 a2 := ⟨_, rfl⟩
  have hs := hs u1 hu1
  have hex3 : ∀ (H : Heap) (locs : List Loc) (ls : Array Slot), va_P (dC, dI) vwCl (wM ad cI cJ Th Ce Le De Ke Kc Ko Kl Kd Ug Ur u1.2 To Tt Td Go Gg Ga Be Bt Si Te Bz Bk) H → va_S (fA 17 ad s.heap.size) s.heap H locs → lv_has ls 6 [(5, .int u1.1), (0, .ref (ad 0)), (1, .int a0), (2, .long a1), (4, .int a2)] → W p l e (headSpec (mW yX6_scale cX6_scale 6 none) { frames := 0, cells := 0, slots := 0, locals := 0 }).room s m ([.ref (ad 0), .int a0, .long a1, .int a2] : List Value).toArray below meth c H locs 0 0 Q9 (F0 m 64 ls []) := by
    intro H locs ls hP hS hl
    rw [hQ9]
    have hf : f_X6_scale a0 a1 a2 Va = u1.2 := by simp only [f_X6_scale, ← hu1]
    exact W.vret hx hb hr (fun t ht hW => ⟨⟨(), rfl, True.intro, by rw [hf]; show va_P (dC, dI) vwCl _ t.heap; rw [ht]; exact hP⟩, hS.F ht⟩) hS.2.2 dX6_scale_64
  have hlp4 : ∀ (n : Nat) (x5v : Int32) (Vav : Nat → Int64) (H : Heap) (locs : List Loc) (ls : Array Slot), SL_X6_scale_3 n x5v Vav a0 a1 a2 → u1 = L_X6_scale_3 n x5v Vav a0 a1 a2 → va_P (dC, dI) vwCl (wM ad cI cJ Th Ce Le De Ke Kc Ko Kl Kd Ug Ur Vav To Tt Td Go Gg Ga Be Bt Si Te Bz Bk) H → va_S (fA 17 ad s.heap.size) s.heap H locs → lv_has ls 6 [(5, .int x5v), (0, .ref (ad 0)), (1, .int a0), (2, .long a1), (4, .int a2)] → W p l e (headSpec (mW yX6_scale cX6_scale 6 none) { frames := 0, cells := 0, slots := 0, locals := 0 }).room s m ([.ref (ad 0), .int a0, .long a1, .int a2] : List Value).toArray below meth c H locs 0 0 Q9 (F0 m 3 ls []) := by
    intro n
    induction n with
    | zero => intro x5v Vav H locs ls hs; rw [SL_X6_scale_3] at hs; exact hs.elim
    | succ n ih =>
      intro x5v Vav H locs ls hs hq5 hP hS hl
      rw [SL_X6_scale_3] at hs
      refine lv_iload hx hb dX6_scale_3 (lv_at hl 0 rfl) ?_
      refine lv_iconst (v := 4) hx hb dX6_scale_5 (by decide) ?_
      refine lv_icmp_ge (tgt := 64) hx hb dX6_scale_6 (by decide) (fun c6 => ?_) (fun c6 => ?_)
      · have hs := hs.1 c6
        have he7 : u1 = (x5v, Vav) := by rw [hq5, L_X6_scale_3]; simp only [if_pos c6, ↓reduceIte]
        exact hex3 _ _ _ (by first | exact hP | (rw [he7]; exact hP)) hS (by first | exact lv_sub hl [0, 1, 2, 3, 4] rfl | (rw [he7]; exact lv_sub hl [0, 1, 2, 3, 4] rfl))
      · have hs := hs.2 c6
        refine lv_iload hx hb dX6_scale_9 (lv_at hl 0 rfl) ?_
        refine lv_if_eq (tgt := 25) hx hb dX6_scale_11 (by decide) (fun c8 => ?_) (fun c8 => ?_)
        · have hs := hs.1 c8
          refine lv_aload_n hx hb dX6_scale_25 rfl (lv_at hl 1 rfl) ?_
          refine va_get (D := (dC, dI)) (ci := 8) (v := .ref (ad 9)) (C := RX6) (T := TX6) (N := 24) hx hb hts iW_X6 hown hK hP 0 rfl rfl 11 (by decide) (hts _ mF_RX6_35) (fun _ h9 => h9) rfl dX6_scale_26 ?_
          refine lv_iload hx hb dX6_scale_29 (lv_at hl 0 rfl) ?_
          refine lv_iload hx hb dX6_scale_31 (lv_at hl 4 rfl) ?_
          refine lv_if_eq (tgt := 48) hx hb dX6_scale_33 (by decide) (fun c9 => ?_) (fun c9 => ?_)
          · have hs := hs.1 c9
            refine lv_aload_n hx hb dX6_scale_48 rfl (lv_at hl 1 rfl) ?_
            refine va_get (D := (dC, dI)) (ci := 8) (v := .ref (ad 9)) (C := RX6) (T := TX6) (N := 24) hx hb hts iW_X6 hown hK hP 0 rfl rfl 11 (by decide) (hts _ mF_RX6_35) (fun _ h9 => h9) rfl dX6_scale_49 ?_
            refine lv_iload hx hb dX6_scale_52 (lv_at hl 0 rfl) ?_
            obtain ⟨h10, hs⟩ := hs
            refine va_lald hx hb hK hP 9 1 rfl rfl h10 dX6_scale_54 ?_
            refine lv_lload_n hx hb dX6_scale_55 rfl (lv_at hl 3 rfl) ?_
            refine lv_lmul hx hb dX6_scale_56 ?_
            obtain ⟨h11, hs⟩ := hs
            refine va_last hx hb hK hP (fA_D hi rfl) hS 9 1 rfl rfl h11 dX6_scale_57 (fun H locs hP _ hS => ?_)
            have hP : va_P (dC, dI) vwCl (wM ad cI cJ Th Ce Le De Ke Kc Ko Kl Kd Ug Ur (vp_updL Vav x5v.toNatClampNeg ((Vav x5v.toNatClampNeg) * a1)) To Tt Td Go Gg Ga Be Bt Si Te Bz Bk) H := hP
            refine lv_iinc (v := (x5v + 1)) (lv' := [(5, .int (x5v + 1)), (0, .ref (ad 0)), (1, .int a0), (2, .long a1), (4, .int a2)]) hx hb dX6_scale_58 hl (k := 0) rfl rfl (by decide) rfl (fun ls hl => ?_)
            refine lv_goto (tgt := 3) hx hb dX6_scale_61 (by decide) ?_
            exact ih (x5v + 1) (vp_updL Vav x5v.toNatClampNeg ((Vav x5v.toNatClampNeg) * a1)) _ _ _ hs (by rw [hq5, L_X6_scale_3]; simp only [if_neg c6, if_pos c8, if_pos c9, ↓reduceIte]) hP hS (lv_sub hl [0, 1, 2, 3, 4] rfl)
          · have hs := hs.2 c9
            refine lv_aload_n hx hb dX6_scale_36 rfl (lv_at hl 1 rfl) ?_
            refine va_get (D := (dC, dI)) (ci := 8) (v := .ref (ad 9)) (C := RX6) (T := TX6) (N := 24) hx hb hts iW_X6 hown hK hP 0 rfl rfl 11 (by decide) (hts _ mF_RX6_35) (fun _ h9 => h9) rfl dX6_scale_37 ?_
            refine lv_iload hx hb dX6_scale_40 (lv_at hl 0 rfl) ?_
            obtain ⟨h12, hs⟩ := hs
            refine va_lald hx hb hK hP 9 1 rfl rfl h12 dX6_scale_42 ?_
            refine lv_lload_n hx hb dX6_scale_43 rfl (lv_at hl 3 rfl) ?_
            obtain ⟨h13, hs⟩ := hs
            refine lv_ldiv hx hb dX6_scale_44 h13 ?_
            refine lv_goto (tgt := 57) hx hb dX6_scale_45 (by decide) ?_
            obtain ⟨h14, hs⟩ := hs
            refine va_last hx hb hK hP (fA_D hi rfl) hS 9 1 rfl rfl h14 dX6_scale_57 (fun H locs hP _ hS => ?_)
            have hP : va_P (dC, dI) vwCl (wM ad cI cJ Th Ce Le De Ke Kc Ko Kl Kd Ug Ur (vp_updL Vav x5v.toNatClampNeg ((Vav x5v.toNatClampNeg) / a1)) To Tt Td Go Gg Ga Be Bt Si Te Bz Bk) H := hP
            refine lv_iinc (v := (x5v + 1)) (lv' := [(5, .int (x5v + 1)), (0, .ref (ad 0)), (1, .int a0), (2, .long a1), (4, .int a2)]) hx hb dX6_scale_58 hl (k := 0) rfl rfl (by decide) rfl (fun ls hl => ?_)
            refine lv_goto (tgt := 3) hx hb dX6_scale_61 (by decide) ?_
            exact ih (x5v + 1) (vp_updL Vav x5v.toNatClampNeg ((Vav x5v.toNatClampNeg) / a1)) _ _ _ hs (by rw [hq5, L_X6_scale_3]; simp only [if_neg c6, if_pos c8, if_neg c9, ↓reduceIte]) hP hS (lv_sub hl [0, 1, 2, 3, 4] rfl)
        · have hs := hs.2 c8
          refine lv_iload_n hx hb dX6_scale_14 rfl (lv_at hl 2 rfl) ?_
          refine lv_iconst (v := 2) hx hb dX6_scale_15 (by decide) ?_
          refine lv_icmp_ne (tgt := 58) hx hb dX6_scale_16 (by decide) (fun c15 => ?_) (fun c15 => ?_)
          · have hs := hs.2 c15
            refine lv_iinc (v := (x5v + 1)) (lv' := [(5, .int (x5v + 1)), (0, .ref (ad 0)), (1, .int a0), (2, .long a1), (4, .int a2)]) hx hb dX6_scale_58 hl (k := 0) rfl rfl (by decide) rfl (fun ls hl => ?_)
            refine lv_goto (tgt := 3) hx hb dX6_scale_61 (by decide) ?_
            exact ih (x5v + 1) Vav _ _ _ hs (by rw [hq5, L_X6_scale_3]; simp only [if_neg c6, if_neg c8, if_neg c15, ↓reduceIte]) hP hS (lv_sub hl [0, 1, 2, 3, 4] rfl)
          · have hs := hs.1 c15
            refine lv_iload hx hb dX6_scale_19 (lv_at hl 0 rfl) ?_
            refine lv_iconst (v := 2) hx hb dX6_scale_21 (by decide) ?_
            refine lv_icmp_eq (tgt := 58) hx hb dX6_scale_22 (by decide) (fun c16 => ?_) (fun c16 => ?_)
            · have hs := hs.1 c16
              refine lv_iinc (v := (x5v + 1)) (lv' := [(5, .int (x5v + 1)), (0, .ref (ad 0)), (1, .int a0), (2, .long a1), (4, .int a2)]) hx hb dX6_scale_58 hl (k := 0) rfl rfl (by decide) rfl (fun ls hl => ?_)
              refine lv_goto (tgt := 3) hx hb dX6_scale_61 (by decide) ?_
              exact ih (x5v + 1) Vav _ _ _ hs (by rw [hq5, L_X6_scale_3]; simp only [if_neg c6, if_neg c8, if_pos c15, if_pos c16, ↓reduceIte]) hP hS (lv_sub hl [0, 1, 2, 3, 4] rfl)
            · have hs := hs.2 c16
              refine lv_aload_n hx hb dX6_scale_25 rfl (lv_at hl 1 rfl) ?_
              refine va_get (D := (dC, dI)) (ci := 8) (v := .ref (ad 9)) (C := RX6) (T := TX6) (N := 24) hx hb hts iW_X6 hown hK hP 0 rfl rfl 11 (by decide) (hts _ mF_RX6_35) (fun _ h9 => h9) rfl dX6_scale_26 ?_
              refine lv_iload hx hb dX6_scale_29 (lv_at hl 0 rfl) ?_
              refine lv_iload hx hb dX6_scale_31 (lv_at hl 4 rfl) ?_
              refine lv_if_eq (tgt := 48) hx hb dX6_scale_33 (by decide) (fun c17 => ?_) (fun c17 => ?_)
              · have hs := hs.1 c17
                refine lv_aload_n hx hb dX6_scale_48 rfl (lv_at hl 1 rfl) ?_
                refine va_get (D := (dC, dI)) (ci := 8) (v := .ref (ad 9)) (C := RX6) (T := TX6) (N := 24) hx hb hts iW_X6 hown hK hP 0 rfl rfl 11 (by decide) (hts _ mF_RX6_35) (fun _ h9 => h9) rfl dX6_scale_49 ?_
                refine lv_iload hx hb dX6_scale_52 (lv_at hl 0 rfl) ?_
                obtain ⟨h18, hs⟩ := hs
                refine va_lald hx hb hK hP 9 1 rfl rfl h18 dX6_scale_54 ?_
                refine lv_lload_n hx hb dX6_scale_55 rfl (lv_at hl 3 rfl) ?_
                refine lv_lmul hx hb dX6_scale_56 ?_
                obtain ⟨h19, hs⟩ := hs
                refine va_last hx hb hK hP (fA_D hi rfl) hS 9 1 rfl rfl h19 dX6_scale_57 (fun H locs hP _ hS => ?_)
                have hP : va_P (dC, dI) vwCl (wM ad cI cJ Th Ce Le De Ke Kc Ko Kl Kd Ug Ur (vp_updL Vav x5v.toNatClampNeg ((Vav x5v.toNatClampNeg) * a1)) To Tt Td Go Gg Ga Be Bt Si Te Bz Bk) H := hP
                refine lv_iinc (v := (x5v + 1)) (lv' := [(5, .int (x5v + 1)), (0, .ref (ad 0)), (1, .int a0), (2, .long a1), (4, .int a2)]) hx hb dX6_scale_58 hl (k := 0) rfl rfl (by decide) rfl (fun ls hl => ?_)
                refine lv_goto (tgt := 3) hx hb dX6_scale_61 (by decide) ?_
                exact ih (x5v + 1) (vp_updL Vav x5v.toNatClampNeg ((Vav x5v.toNatClampNeg) * a1)) _ _ _ hs (by rw [hq5, L_X6_scale_3]; simp only [if_neg c6, if_neg c8, if_pos c15, if_neg c16, if_pos c17, ↓reduceIte]) hP hS (lv_sub hl [0, 1, 2, 3, 4] rfl)
              · have hs := hs.2 c17
                refine lv_aload_n hx hb dX6_scale_36 rfl (lv_at hl 1 rfl) ?_
                refine va_get (D := (dC, dI)) (ci := 8) (v := .ref (ad 9)) (C := RX6) (T := TX6) (N := 24) hx hb hts iW_X6 hown hK hP 0 rfl rfl 11 (by decide) (hts _ mF_RX6_35) (fun _ h9 => h9) rfl dX6_scale_37 ?_
                refine lv_iload hx hb dX6_scale_40 (lv_at hl 0 rfl) ?_
                obtain ⟨h20, hs⟩ := hs
                refine va_lald hx hb hK hP 9 1 rfl rfl h20 dX6_scale_42 ?_
                refine lv_lload_n hx hb dX6_scale_43 rfl (lv_at hl 3 rfl) ?_
                obtain ⟨h21, hs⟩ := hs
                refine lv_ldiv hx hb dX6_scale_44 h21 ?_
                refine lv_goto (tgt := 57) hx hb dX6_scale_45 (by decide) ?_
                obtain ⟨h22, hs⟩ := hs
                refine va_last hx hb hK hP (fA_D hi rfl) hS 9 1 rfl rfl h22 dX6_scale_57 (fun H locs hP _ hS => ?_)
                have hP : va_P (dC, dI) vwCl (wM ad cI cJ Th Ce Le De Ke Kc Ko Kl Kd Ug Ur (vp_updL Vav x5v.toNatClampNeg ((Vav x5v.toNatClampNeg) / a1)) To Tt Td Go Gg Ga Be Bt Si Te Bz Bk) H := hP
                refine lv_iinc (v := (x5v + 1)) (lv' := [(5, .int (x5v + 1)), (0, .ref (ad 0)), (1, .int a0), (2, .long a1), (4, .int a2)]) hx hb dX6_scale_58 hl (k := 0) rfl rfl (by decide) rfl (fun ls hl => ?_)
                refine lv_goto (tgt := 3) hx hb dX6_scale_61 (by decide) ?_
                exact ih (x5v + 1) (vp_updL Vav x5v.toNatClampNeg ((Vav x5v.toNatClampNeg) / a1)) _ _ _ hs (by rw [hq5, L_X6_scale_3]; simp only [if_neg c6, if_neg c8, if_pos c15, if_neg c16, if_neg c17, ↓reduceIte]) hP hS (lv_sub hl [0, 1, 2, 3, 4] rfl)
  exact hlp4 5 (0 : Int32) Va _ _ _ h2 hu1 hP hS (lv_sub hl [0, 1, 2, 3, 4] rfl)
theorem q_X6_scale {p : Program} {l : Launch} {e : Env} {R : Room} {s : State} {m : MethodId} {args : Array Value} {below : List Frame} {meth : Method} {c : Code} {H : Heap} {locs : List Loc} {cells slots : Nat} {Q : State → Prop} {pc : Nat} {ls : Array Slot} {rest : List Value} {cc : ByteArray} {nL idx : Nat} {own : String} {A0 : Nat → Prop} {dC : Nat → ClassId} {dI : Nat → Nat → Nat} {cI cJ : ClassId} {ad : Nat → Nat} {Th : Int32} {Ce : Nat → Int64} {Le : Nat → Int32} {De : Int32} {Ke : Int32} {Kc : Nat → Int64} {Ko : Nat → Int32} {Kl : Nat → Int32} {Kd : Nat → Int32} {Ug : Nat → Int64} {Ur : Nat → Int64} {Va : Nat → Int64} {To : Int32} {Tt : Nat → Int32} {Td : Nat → Int32} {Go : Int32} {Gg : Nat → Int32} {Ga : Nat → Int32} {Be : Int32} {Bt : Nat → Int32} {Si : Int32} {Te : Nat → Int32} {Bz : Int32} {Bk : Nat → Int32} (hx : p.tables.exec = Jvm.exec) (hb : c.code = cc) (hml : c.maxLocals = nL) (hown : s.vm.findClass own = some m.cls) (hts : ∀ w ∈ bigW, w.before args s = true) (hlk : Cond.methodLink own idx yX6_scale ∈ bigW) (hR : 1 ≤ R.frames ∧ 25 ≤ R.locals) (hf : cells + 0 ≤ R.cells ∧ slots + 0 ≤ R.slots) (hz : ls.size = nL) (hw : (rest.map fun v => v.category).sum ≤ 8) (hS : va_S A0 s.heap H locs) (hd : decode cc pc = .ok (.invokevirtual idx, 3)) (hA : ∀ q, fA 17 ad H.size q → A0 q) (hi : fI 17 ad) (hK : va_K (dC, dI) vwCl [(cI, .int), (cJ, .long)] s) (hP : va_P (dC, dI) vwCl (wM ad cI cJ Th Ce Le De Ke Kc Ko Kl Kd Ug Ur Va To Tt Td Go Gg Ga Be Bt Si Te Bz Bk) H) (a0 : Int32) (a1 : Int64) (a2 : Int32) (hs : S_X6_scale a0 a1 a2 Va)  (u : (Nat → Int64)) (hu : u = f_X6_scale a0 a1 a2 Va) (k : ∀ (H1 : Heap) (locs1 : List Loc), va_P (dC, dI) vwCl (wM ad cI cJ Th Ce Le De Ke Kc Ko Kl Kd Ug Ur u To Tt Td Go Gg Ga Be Bt Si Te Bz Bk) H1 → va_S A0 s.heap H1 locs1 → W p l e R s m args below meth c H1 locs1 (cells + 0) (slots + 0) Q (F0 m (pc + 3) ls (rest))) : W p l e R s m args below meth c H locs cells slots Q (F0 m pc ls (.int a2 :: .long a1 :: .int a0 :: .ref (ad 0) :: rest)) := by
  subst hu
  exact va_callv (va_runV (As := [.int a0, .long a1, .int a2]) (rest := rest) ⟨hx, hb, hml, hown, hts⟩ (c_X6_scale l dC dI cI cJ ad hi H.size Th Ce Le De Ke Kc Ko Kl Kd Ug Ur Va To Tt Td Go Gg Ga Be Bt Si Te Bz Bk a0 a1 a2 hs) (kV 3 hts hlk mI_X6_scale mN_RX6 mY_X6_scale mV_X6_scale rfl rfl (by decide +kernel) hR) ⟨fun a U g mk q => ⟨q.1, q.2.1, q.2.2.1, va_K.moved (u := U) (U := U.calling g mk a) (Vm.Alike.refl U.vm) q.2.2.2⟩, va_recv hK hP (ci := 8) (q0 := 0) rfl rfl, fun U hU hW => ⟨rfl, by rw [hU], by rw [hU]; exact hP, va_K.moved hW.alike hK⟩⟩ rfl rfl hz rfl (lv_room hw) hd hf) hS (fun q _ h => hA q h) (fun q h => hA q h) (fun u t H1 locs1 ht hvm hw9 hB hz1 hk1 hS1 => by
    skip
    exact k H1 locs1 (by rw [← ht]; exact hB) hS1)

def f_X6_multiply (a0 : Int32) (a1 : Int32) (a2 : Int64) (a3 : Int32) (Th : Int32) (Ce : Nat → Int64) (Le : Nat → Int32) (De : Int32) (Ke : Int32) (Kc : Nat → Int64) (Ko : Nat → Int32) (Kl : Nat → Int32) (Kd : Nat → Int32) (Va : Nat → Int64) : Int32 × Int32 × (Nat → Int64) × (Nat → Int32) × Int32 × (Nat → Int64) × (Nat → Int32) × (Nat → Int32) × (Nat → Int32) × (Nat → Int64) := (if (f_X6_in a0.toInt64 (0 : Int64) (2 : Int64)) = 0 then ((0 : Int32), (1 : Int32), Ce, Le, Ke, Kc, Ko, Kl, Kd, Va) else (if (f_X6_isRegister a1) = 0 then ((0 : Int32), (2 : Int32), Ce, Le, Ke, Kc, Ko, Kl, Kd, Va) else (if (f_X6_in a2 (-2147483647 : Int64) (2147483647 : Int64)) = 0 then ((0 : Int32), (0 : Int32), Ce, Le, Ke, Kc, Ko, Kl, Kd, Va) else (let u6 := f_X6_fetch a0 a1 Ce Va; (let u8 := f_X6_scale a0 a2 (0 : Int32) u6; (let u10 := f_X6_finish a0 a1 a3 (3 : Int32) (0 : Int32) Ce Le De Ke Kc Ko Kl Kd u8; (u10.1, u10.2.1, u10.2.2.1, u10.2.2.2.1, u10.2.2.2.2.1, u10.2.2.2.2.2.1, u10.2.2.2.2.2.2.1, u10.2.2.2.2.2.2.2.1, u10.2.2.2.2.2.2.2.2, u8)))))))
def S_X6_multiply (a0 : Int32) (a1 : Int32) (a2 : Int64) (a3 : Int32) (Th : Int32) (Ce : Nat → Int64) (Le : Nat → Int32) (De : Int32) (Ke : Int32) (Kc : Nat → Int64) (Ko : Nat → Int32) (Kl : Nat → Int32) (Kd : Nat → Int32) (Va : Nat → Int64) : Prop := ((f_X6_in a0.toInt64 (0 : Int64) (2 : Int64)) = 0 → (True)) ∧ (¬ (f_X6_in a0.toInt64 (0 : Int64) (2 : Int64)) = 0 → (((f_X6_isRegister a1) = 0 → (True)) ∧ (¬ (f_X6_isRegister a1) = 0 → (((f_X6_in a2 (-2147483647 : Int64) (2147483647 : Int64)) = 0 → (True)) ∧ (¬ (f_X6_in a2 (-2147483647 : Int64) (2147483647 : Int64)) = 0 → ((S_X6_fetch a0 a1 Ce Va) ∧ (∀ u6, u6 = f_X6_fetch a0 a1 Ce Va → ((S_X6_scale a0 a2 (0 : Int32) u6) ∧ (∀ u8, u8 = f_X6_scale a0 a2 (0 : Int32) u6 → ((S_X6_finish a0 a1 a3 (3 : Int32) (0 : Int32) Ce Le De Ke Kc Ko Kl Kd u8) ∧ (∀ u10, u10 = f_X6_finish a0 a1 a3 (3 : Int32) (0 : Int32) Ce Le De Ke Kc Ko Kl Kd u8 → (True))))))))))))
set_option maxHeartbeats 4000000 in
set_option maxRecDepth 100000 in
theorem c_X6_multiply (l : Launch) (dC : Nat → ClassId) (dI : Nat → Nat → Nat) (cI cJ : ClassId) (ad : Nat → Nat) (hi : fI 17 ad) (sz : Nat) (Th : Int32) (Ce : Nat → Int64) (Le : Nat → Int32) (De : Int32) (Ke : Int32) (Kc : Nat → Int64) (Ko : Nat → Int32) (Kl : Nat → Int32) (Kd : Nat → Int32) (Ug : Nat → Int64) (Ur : Nat → Int64) (Va : Nat → Int64) (To : Int32) (Tt : Nat → Int32) (Td : Nat → Int32) (Go : Int32) (Gg : Nat → Int32) (Ga : Nat → Int32) (Be : Int32) (Bt : Nat → Int32) (Si : Int32) (Te : Nat → Int32) (Bz : Int32) (Bk : Nat → Int32) (a0 : Int32) (a1 : Int32) (a2 : Int64) (a3 : Int32) (hs : S_X6_multiply a0 a1 a2 a3 Th Ce Le De Ke Kc Ko Kl Kd Va) : Met l yX6_multiply (mW yX6_multiply cX6_multiply 6 (some .int)) { frames := 4, cells := 0, slots := 0, locals := 92 } (va_Pc [.ref (ad 0), .int a0, .int a1, .long a2, .int a3] (fun U => U.heap.size = sz ∧ va_P (dC, dI) vwCl (wM ad cI cJ Th Ce Le De Ke Kc Ko Kl Kd Ug Ur Va To Tt Td Go Gg Ga Be Bt Si Te Bz Bk) U.heap ∧ va_K (dC, dI) vwCl [(cI, .int), (cJ, .long)] U)) (va_Qi (fun (r : Int32) (_ : Unit) => r = (f_X6_multiply a0 a1 a2 a3 Th Ce Le De Ke Kc Ko Kl Kd Va).1) (fun _ t => va_P (dC, dI) vwCl (wM ad cI cJ ((f_X6_multiply a0 a1 a2 a3 Th Ce Le De Ke Kc Ko Kl Kd Va).2.1) ((f_X6_multiply a0 a1 a2 a3 Th Ce Le De Ke Kc Ko Kl Kd Va).2.2.1) ((f_X6_multiply a0 a1 a2 a3 Th Ce Le De Ke Kc Ko Kl Kd Va).2.2.2.1) De ((f_X6_multiply a0 a1 a2 a3 Th Ce Le De Ke Kc Ko Kl Kd Va).2.2.2.2.1) ((f_X6_multiply a0 a1 a2 a3 Th Ce Le De Ke Kc Ko Kl Kd Va).2.2.2.2.2.1) ((f_X6_multiply a0 a1 a2 a3 Th Ce Le De Ke Kc Ko Kl Kd Va).2.2.2.2.2.2.1) ((f_X6_multiply a0 a1 a2 a3 Th Ce Le De Ke Kc Ko Kl Kd Va).2.2.2.2.2.2.2.1) ((f_X6_multiply a0 a1 a2 a3 Th Ce Le De Ke Kc Ko Kl Kd Va).2.2.2.2.2.2.2.2.1) Ug Ur ((f_X6_multiply a0 a1 a2 a3 Th Ce Le De Ke Kc Ko Kl Kd Va).2.2.2.2.2.2.2.2.2) To Tt Td Go Gg Ga Be Bt Si Te Bz Bk) t.heap) (fA 17 ad sz)) 0 0 (fA 17 ad sz) := by
  refine Met.ofW (cc := cX6_multiply) (maxL := 6) (ret := (some .int)) (by decide) rfl ?_
  intro p e s m args below meth c s₁ B hml hv
  obtain ⟨rfl, hsz, hP, hK⟩ := hv
  have hx := B.exec
  have hb := B.bytes
  have hr := B.returns
  have hts := mW_hts (atoms_spec (ws := (mW yX6_multiply cX6_multiply 6 (some .int))) B.pre)
  have hown : s.vm.findClass RX6 = some m.cls := findClass_of_methodNamed B.named
  have hlocks := B.notSynchronized
  subst hsz
  have hA : ∀ (n : Nat) (q : Nat), s.heap.size ≤ n → n ≤ q → fA 17 ad s.heap.size q := fun n q h1 h2 => Or.inr (Nat.le_trans h1 h2)
  have hS : va_S (fA 17 ad s.heap.size) s.heap s.heap [] := va_S.rf
  have hA : ∀ q, s.heap.size ≤ q → (fA 17 ad s.heap.size) q := fun q h => Or.inr h
  unfold S_X6_multiply at hs
  have hl := lv_entry ([.ref (ad 0), .int a0, .int a1, .long a2, .int a3]) (n := 6) (Nat.le_of_ble_eq_true rfl)
  rw [lg_entry_eq]
  generalize (lg_sl ([.ref (ad 0), .int a0, .int a1, .long a2, .int a3]) ++ List.replicate (6 - (lg_sl ([.ref (ad 0), .int a0, .int a1, .long a2, .int a3])).length) Slot.unset).toArray = ls at hl ⊢
  have hl : lv_has ls 6 [(0, .ref (ad 0)), (1, .int a0), (2, .int a1), (3, .long a2), (5, .int a3)] := hl
  refine W_gen (fun Q9 hQ9 => ?_)
  refine lv_aload_n hx hb dX6_multiply_0 rfl (lv_at hl 0 rfl) ?_
  refine lv_iload_n hx hb dX6_multiply_1 rfl (lv_at hl 1 rfl) ?_
  refine lv_i2l hx hb dX6_multiply_2 rfl ?_
  refine lv_lconst (v := 0) hx hb dX6_multiply_3 (by decide) ?_
  refine lv_ldc2 hx hb hown (hts _ mK_RX6_121) dX6_multiply_4 ?_
  refine q_X6_in hx hb hml hown hts mM_RX6_67 ⟨Nat.le_of_ble_eq_true rfl, Nat.le_of_ble_eq_true rfl⟩ ⟨Nat.le_of_ble_eq_true rfl, Nat.le_of_ble_eq_true rfl⟩ hl.1 (Nat.le_of_ble_eq_true rfl) hS dX6_multiply_7 hA a0.toInt64 (0 : Int64) (2 : Int64) (fun locs hS => ?_)
  refine lv_if_ne (tgt := 17) hx hb dX6_multiply_10 (by decide) (fun c1 => ?_) (fun c1 => ?_)
  · have hs := hs.2 c1
    refine lv_iload_n hx hb dX6_multiply_17 rfl (lv_at hl 2 rfl) ?_
    refine q_X6_isRegister hx hb hml hown hts mM_RX6_114 ⟨Nat.le_of_ble_eq_true rfl, Nat.le_of_ble_eq_true rfl⟩ ⟨Nat.le_of_ble_eq_true rfl, Nat.le_of_ble_eq_true rfl⟩ hl.1 (Nat.le_of_ble_eq_true rfl) hS dX6_multiply_18 hA a1 (fun locs hS => ?_)
    refine lv_if_ne (tgt := 28) hx hb dX6_multiply_21 (by decide) (fun c2 => ?_) (fun c2 => ?_)
    · have hs := hs.2 c2
      refine lv_iconst (v := 0) hx hb dX6_multiply_28 (by decide) ?_
      refine va_put (D := (dC, dI)) (ci := 8) (v := .int (0 : Int32)) (ty := .int) (C := RX6) (T := TX6) (N := 24) hx hb hts iW_X6 tyX6 tyX6_ok nmX6 hown hK hP (fA_D hi rfl) hS 0 rfl rfl 0 (by decide) (hts _ mF_RX6_61) (fun _ h9 => h9) rfl (by decide +kernel) rfl rfl (Nat.le_of_ble_eq_true rfl) dX6_multiply_29 (fun H locs hP _ hS => ?_)
      have hP : va_P (dC, dI) vwCl (wM ad cI cJ (0 : Int32) Ce Le De Ke Kc Ko Kl Kd Ug Ur Va To Tt Td Go Gg Ga Be Bt Si Te Bz Bk) H := hP
      refine lv_aload_n hx hb dX6_multiply_32 rfl (lv_at hl 0 rfl) ?_
      refine va_get (D := (dC, dI)) (ci := 8) (v := .int (0 : Int32)) (C := RX6) (T := TX6) (N := 24) hx hb hts iW_X6 hown hK hP 0 rfl rfl 0 (by decide) (hts _ mF_RX6_61) (fun _ h9 => h9) rfl dX6_multiply_33 ?_
      refine lv_if_gt (tgt := 52) hx hb dX6_multiply_36 (by decide) (fun c3 => ?_) (fun c3 => ?_)
      · exact absurd c3 (by decide)
      · refine lv_lload_n hx hb dX6_multiply_39 rfl (lv_at hl 3 rfl) ?_
        refine lv_ldc2 hx hb hown (hts _ mK_RX6_87) dX6_multiply_40 ?_
        refine lv_ldc2 hx hb hown (hts _ mK_RX6_89) dX6_multiply_43 ?_
        refine q_X6_in hx hb hml hown hts mM_RX6_67 ⟨Nat.le_of_ble_eq_true rfl, Nat.le_of_ble_eq_true rfl⟩ ⟨Nat.le_of_ble_eq_true rfl, Nat.le_of_ble_eq_true rfl⟩ hl.1 (Nat.le_of_ble_eq_true rfl) hS dX6_multiply_46 hA a2 (-2147483647 : Int64) (2147483647 : Int64) (fun locs hS => ?_)
        refine lv_if_ne (tgt := 54) hx hb dX6_multiply_49 (by decide) (fun c4 => ?_) (fun c4 => ?_)
        · have hs := hs.2 c4
          refine lv_aload_n hx hb dX6_multiply_54 rfl (lv_at hl 0 rfl) ?_
          refine lv_iload_n hx hb dX6_multiply_55 rfl (lv_at hl 1 rfl) ?_
          refine lv_iload_n hx hb dX6_multiply_56 rfl (lv_at hl 2 rfl) ?_
          obtain ⟨h5, hs⟩ := hs
          obtain ⟨u6, hu6⟩ : ∃ z, z = f_X6_fetch a0 a1 Ce Va := ⟨_, rfl⟩
          have hs := hs u6 hu6
          refine q_X6_fetch hx hb hml hown hts mM_RX6_123 ⟨Nat.le_of_ble_eq_true rfl, Nat.le_of_ble_eq_true rfl⟩ ⟨Nat.le_of_ble_eq_true rfl, Nat.le_of_ble_eq_true rfl⟩ hl.1 (Nat.le_of_ble_eq_true rfl) hS dX6_multiply_57 (fun _ h9 => fA_mono hS.1 h9) hi hK hP a0 a1 h5 u6 hu6 (fun H locs hP hS => ?_)
          refine lv_aload_n hx hb dX6_multiply_60 rfl (lv_at hl 0 rfl) ?_
          refine lv_iload_n hx hb dX6_multiply_61 rfl (lv_at hl 1 rfl) ?_
          refine lv_lload_n hx hb dX6_multiply_62 rfl (lv_at hl 3 rfl) ?_
          refine lv_iconst (v := 0) hx hb dX6_multiply_63 (by decide) ?_
          obtain ⟨h7, hs⟩ := hs
          obtain ⟨u8, hu8⟩ : ∃ z, z = f_X6_scale a0 a2 (0 : Int32) u6 := ⟨_, rfl⟩
          have hs := hs u8 hu8
          refine q_X6_scale hx hb hml hown hts mM_RX6_134 ⟨Nat.le_of_ble_eq_true rfl, Nat.le_of_ble_eq_true rfl⟩ ⟨Nat.le_of_ble_eq_true rfl, Nat.le_of_ble_eq_true rfl⟩ hl.1 (Nat.le_of_ble_eq_true rfl) hS dX6_multiply_64 (fun _ h9 => fA_mono hS.1 h9) hi hK hP a0 a2 (0 : Int32) h7 u8 hu8 (fun H locs hP hS => ?_)
          refine lv_aload_n hx hb dX6_multiply_67 rfl (lv_at hl 0 rfl) ?_
          refine lv_iload_n hx hb dX6_multiply_68 rfl (lv_at hl 1 rfl) ?_
          refine lv_iload_n hx hb dX6_multiply_69 rfl (lv_at hl 2 rfl) ?_
          refine lv_iload hx hb dX6_multiply_70 (lv_at hl 4 rfl) ?_
          refine lv_iconst (v := 3) hx hb dX6_multiply_72 (by decide) ?_
          obtain ⟨h9, hs⟩ := hs
          obtain ⟨u10, hu10⟩ : ∃ z, z = f_X6_finish a0 a1 a3 (3 : Int32) (0 : Int32) Ce Le De Ke Kc Ko Kl Kd u8 := ⟨_, rfl⟩
          have hs := hs u10 hu10
          refine q_X6_finish hx hb hml hown hts mM_RX6_117 ⟨Nat.le_of_ble_eq_true rfl, Nat.le_of_ble_eq_true rfl⟩ ⟨Nat.le_of_ble_eq_true rfl, Nat.le_of_ble_eq_true rfl⟩ hl.1 (Nat.le_of_ble_eq_true rfl) hS dX6_multiply_73 (fun _ h9 => fA_mono hS.1 h9) hi hK hP a0 a1 a3 (3 : Int32) h9 u10 hu10 (fun H locs hP hS => ?_)
          rw [hQ9]
          have hf : f_X6_multiply a0 a1 a2 a3 Th Ce Le De Ke Kc Ko Kl Kd Va = (u10.1, u10.2.1, u10.2.2.1, u10.2.2.2.1, u10.2.2.2.2.1, u10.2.2.2.2.2.1, u10.2.2.2.2.2.2.1, u10.2.2.2.2.2.2.2.1, u10.2.2.2.2.2.2.2.2, u8) := by simp only [f_X6_multiply, if_neg c1, if_neg c2, if_neg c4, ← hu6, ← hu8, ← hu10]
          exact W.iret (v := u10.1) hx hb hr (fun t ht hW => ⟨⟨u10.1, (), rfl, by rw [hf], by rw [hf]; show va_P (dC, dI) vwCl _ t.heap; rw [ht]; exact hP⟩, hS.F ht⟩) hS.2.2 dX6_multiply_76
        · have hs := hs.1 c4
          refine lv_iconst (v := 0) hx hb dX6_multiply_52 (by decide) ?_
          rw [hQ9]
          have hf : f_X6_multiply a0 a1 a2 a3 Th Ce Le De Ke Kc Ko Kl Kd Va = ((0 : Int32), (0 : Int32), Ce, Le, Ke, Kc, Ko, Kl, Kd, Va) := by simp only [f_X6_multiply, if_neg c1, if_neg c2, if_pos c4]
          exact W.iret (v := (0 : Int32)) hx hb hr (fun t ht hW => ⟨⟨(0 : Int32), (), rfl, by rw [hf], by rw [hf]; show va_P (dC, dI) vwCl _ t.heap; rw [ht]; exact hP⟩, hS.F ht⟩) hS.2.2 dX6_multiply_53
    · have hs := hs.1 c2
      refine lv_iconst (v := 2) hx hb dX6_multiply_24 (by decide) ?_
      refine lv_goto (tgt := 29) hx hb dX6_multiply_25 (by decide) ?_
      refine va_put (D := (dC, dI)) (ci := 8) (v := .int (2 : Int32)) (ty := .int) (C := RX6) (T := TX6) (N := 24) hx hb hts iW_X6 tyX6 tyX6_ok nmX6 hown hK hP (fA_D hi rfl) hS 0 rfl rfl 0 (by decide) (hts _ mF_RX6_61) (fun _ h9 => h9) rfl (by decide +kernel) rfl rfl (Nat.le_of_ble_eq_true rfl) dX6_multiply_29 (fun H locs hP _ hS => ?_)
      have hP : va_P (dC, dI) vwCl (wM ad cI cJ (2 : Int32) Ce Le De Ke Kc Ko Kl Kd Ug Ur Va To Tt Td Go Gg Ga Be Bt Si Te Bz Bk) H := hP
      refine lv_aload_n hx hb dX6_multiply_32 rfl (lv_at hl 0 rfl) ?_
      refine va_get (D := (dC, dI)) (ci := 8) (v := .int (2 : Int32)) (C := RX6) (T := TX6) (N := 24) hx hb hts iW_X6 hown hK hP 0 rfl rfl 0 (by decide) (hts _ mF_RX6_61) (fun _ h9 => h9) rfl dX6_multiply_33 ?_
      refine lv_if_gt (tgt := 52) hx hb dX6_multiply_36 (by decide) (fun c11 => ?_) (fun c11 => ?_)
      · refine lv_iconst (v := 0) hx hb dX6_multiply_52 (by decide) ?_
        rw [hQ9]
        have hf : f_X6_multiply a0 a1 a2 a3 Th Ce Le De Ke Kc Ko Kl Kd Va = ((0 : Int32), (2 : Int32), Ce, Le, Ke, Kc, Ko, Kl, Kd, Va) := by simp only [f_X6_multiply, if_neg c1, if_pos c2]
        exact W.iret (v := (0 : Int32)) hx hb hr (fun t ht hW => ⟨⟨(0 : Int32), (), rfl, by rw [hf], by rw [hf]; show va_P (dC, dI) vwCl _ t.heap; rw [ht]; exact hP⟩, hS.F ht⟩) hS.2.2 dX6_multiply_53
      · exact absurd (by decide) c11
  · have hs := hs.1 c1
    refine lv_iconst (v := 1) hx hb dX6_multiply_13 (by decide) ?_
    refine lv_goto (tgt := 29) hx hb dX6_multiply_14 (by decide) ?_
    refine va_put (D := (dC, dI)) (ci := 8) (v := .int (1 : Int32)) (ty := .int) (C := RX6) (T := TX6) (N := 24) hx hb hts iW_X6 tyX6 tyX6_ok nmX6 hown hK hP (fA_D hi rfl) hS 0 rfl rfl 0 (by decide) (hts _ mF_RX6_61) (fun _ h9 => h9) rfl (by decide +kernel) rfl rfl (Nat.le_of_ble_eq_true rfl) dX6_multiply_29 (fun H locs hP _ hS => ?_)
    have hP : va_P (dC, dI) vwCl (wM ad cI cJ (1 : Int32) Ce Le De Ke Kc Ko Kl Kd Ug Ur Va To Tt Td Go Gg Ga Be Bt Si Te Bz Bk) H := hP
    refine lv_aload_n hx hb dX6_multiply_32 rfl (lv_at hl 0 rfl) ?_
    refine va_get (D := (dC, dI)) (ci := 8) (v := .int (1 : Int32)) (C := RX6) (T := TX6) (N := 24) hx hb hts iW_X6 hown hK hP 0 rfl rfl 0 (by decide) (hts _ mF_RX6_61) (fun _ h9 => h9) rfl dX6_multiply_33 ?_
    refine lv_if_gt (tgt := 52) hx hb dX6_multiply_36 (by decide) (fun c12 => ?_) (fun c12 => ?_)
    · refine lv_iconst (v := 0) hx hb dX6_multiply_52 (by decide) ?_
      rw [hQ9]
      have hf : f_X6_multiply a0 a1 a2 a3 Th Ce Le De Ke Kc Ko Kl Kd Va = ((0 : Int32), (1 : Int32), Ce, Le, Ke, Kc, Ko, Kl, Kd, Va) := by simp only [f_X6_multiply, if_pos c1]
      exact W.iret (v := (0 : Int32)) hx hb hr (fun t ht hW => ⟨⟨(0 : Int32), (), rfl, by rw [hf], by rw [hf]; show va_P (dC, dI) vwCl _ t.heap; rw [ht]; exact hP⟩, hS.F ht⟩) hS.2.2 dX6_multiply_53
    · exact absurd (by decide) c12
theorem q_X6_multiply {p : Program} {l : Launch} {e : Env} {R : Room} {s : State} {m : MethodId} {args : Array Value} {below : List Frame} {meth : Method} {c : Code} {H : Heap} {locs : List Loc} {cells slots : Nat} {Q : State → Prop} {pc : Nat} {ls : Array Slot} {rest : List Value} {cc : ByteArray} {nL idx : Nat} {own : String} {A0 : Nat → Prop} {dC : Nat → ClassId} {dI : Nat → Nat → Nat} {cI cJ : ClassId} {ad : Nat → Nat} {Th : Int32} {Ce : Nat → Int64} {Le : Nat → Int32} {De : Int32} {Ke : Int32} {Kc : Nat → Int64} {Ko : Nat → Int32} {Kl : Nat → Int32} {Kd : Nat → Int32} {Ug : Nat → Int64} {Ur : Nat → Int64} {Va : Nat → Int64} {To : Int32} {Tt : Nat → Int32} {Td : Nat → Int32} {Go : Int32} {Gg : Nat → Int32} {Ga : Nat → Int32} {Be : Int32} {Bt : Nat → Int32} {Si : Int32} {Te : Nat → Int32} {Bz : Int32} {Bk : Nat → Int32} (hx : p.tables.exec = Jvm.exec) (hb : c.code = cc) (hml : c.maxLocals = nL) (hown : s.vm.findClass own = some m.cls) (hts : ∀ w ∈ bigW, w.before args s = true) (hlk : Cond.methodLink own idx yX6_multiply ∈ bigW) (hR : 5 ≤ R.frames ∧ 117 ≤ R.locals) (hf : cells + 0 ≤ R.cells ∧ slots + 0 ≤ R.slots) (hz : ls.size = nL) (hw : (rest.map fun v => v.category).sum ≤ 8) (hS : va_S A0 s.heap H locs) (hd : decode cc pc = .ok (.invokevirtual idx, 3)) (hA : ∀ q, fA 17 ad H.size q → A0 q) (hi : fI 17 ad) (hK : va_K (dC, dI) vwCl [(cI, .int), (cJ, .long)] s) (hP : va_P (dC, dI) vwCl (wM ad cI cJ Th Ce Le De Ke Kc Ko Kl Kd Ug Ur Va To Tt Td Go Gg Ga Be Bt Si Te Bz Bk) H) (a0 : Int32) (a1 : Int32) (a2 : Int64) (a3 : Int32) (hs : S_X6_multiply a0 a1 a2 a3 Th Ce Le De Ke Kc Ko Kl Kd Va)  (u : Int32 × Int32 × (Nat → Int64) × (Nat → Int32) × Int32 × (Nat → Int64) × (Nat → Int32) × (Nat → Int32) × (Nat → Int32) × (Nat → Int64)) (hu : u = f_X6_multiply a0 a1 a2 a3 Th Ce Le De Ke Kc Ko Kl Kd Va) (k : ∀ (H1 : Heap) (locs1 : List Loc), va_P (dC, dI) vwCl (wM ad cI cJ u.2.1 u.2.2.1 u.2.2.2.1 De u.2.2.2.2.1 u.2.2.2.2.2.1 u.2.2.2.2.2.2.1 u.2.2.2.2.2.2.2.1 u.2.2.2.2.2.2.2.2.1 Ug Ur u.2.2.2.2.2.2.2.2.2 To Tt Td Go Gg Ga Be Bt Si Te Bz Bk) H1 → va_S A0 s.heap H1 locs1 → W p l e R s m args below meth c H1 locs1 (cells + 0) (slots + 0) Q (F0 m (pc + 3) ls (.int u.1 :: rest))) : W p l e R s m args below meth c H locs cells slots Q (F0 m pc ls (.int a3 :: .long a2 :: .int a1 :: .int a0 :: .ref (ad 0) :: rest)) := by
  subst hu
  exact va_calli (va_runV (As := [.int a0, .int a1, .long a2, .int a3]) (rest := rest) ⟨hx, hb, hml, hown, hts⟩ (c_X6_multiply l dC dI cI cJ ad hi H.size Th Ce Le De Ke Kc Ko Kl Kd Ug Ur Va To Tt Td Go Gg Ga Be Bt Si Te Bz Bk a0 a1 a2 a3 hs) (kV 4 hts hlk mI_X6_multiply mN_RX6 mY_X6_multiply mV_X6_multiply rfl rfl (by decide +kernel) hR) ⟨fun a U g mk q => ⟨q.1, q.2.1, q.2.2.1, va_K.moved (u := U) (U := U.calling g mk a) (Vm.Alike.refl U.vm) q.2.2.2⟩, va_recv hK hP (ci := 8) (q0 := 0) rfl rfl, fun U hU hW => ⟨rfl, by rw [hU], by rw [hU]; exact hP, va_K.moved hW.alike hK⟩⟩ rfl rfl hz rfl (lv_room hw) hd hf) hS (fun q _ h => hA q h) (fun q h => hA q h) (fun r u t H1 locs1 ht hvm hw9 hB hz1 hk1 hS1 => by
    subst hw9
    exact k H1 locs1 (by rw [← ht]; exact hB) hS1)
theorem qf_X6_multiply {p : Program} {l : Launch} {e : Env} {R : Room} {s : State} {m : MethodId} {args : Array Value} {below : List Frame} {meth : Method} {c : Code} {H : Heap} {locs : List Loc} {cells slots : Nat} {Q : State → Prop} {pc : Nat} {ls : Array Slot} {rest : List Value} {cc : ByteArray} {nL idx : Nat} {own : String} {A0 : Nat → Prop} {dC : Nat → ClassId} {dI : Nat → Nat → Nat} {cI cJ : ClassId} {ad : Nat → Nat} {Th : Int32} {Ce : Nat → Int64} {Le : Nat → Int32} {De : Int32} {Ke : Int32} {Kc : Nat → Int64} {Ko : Nat → Int32} {Kl : Nat → Int32} {Kd : Nat → Int32} {Ug : Nat → Int64} {Ur : Nat → Int64} {Va : Nat → Int64} {To : Int32} {Tt : Nat → Int32} {Td : Nat → Int32} {Go : Int32} {Gg : Nat → Int32} {Ga : Nat → Int32} {Be : Int32} {Bt : Nat → Int32} {Si : Int32} {Te : Nat → Int32} {Bz : Int32} {Bk : Nat → Int32} (hx : p.tables.exec = Jvm.exec) (hb : c.code = cc) (hml : c.maxLocals = nL) (hown : s.vm.findClass own = some m.cls) (hts : ∀ w ∈ bigW, w.before args s = true) (hlk : Cond.methodLink own idx yX6_multiply ∈ bigW) (hR : 5 ≤ R.frames ∧ 117 ≤ R.locals) (hf : cells + 0 ≤ R.cells ∧ slots + 0 ≤ R.slots) (hz : ls.size = nL) (hw : (rest.map fun v => v.category).sum ≤ 8) (hS : va_S A0 s.heap H locs) (hd : decode cc pc = .ok (.invokevirtual idx, 3)) (hA : ∀ q, fA 17 ad H.size q → A0 q) (hi : fI 17 ad) (hK : va_K (dC, dI) vwCl [(cI, .int), (cJ, .long)] s) (hP : va_P (dC, dI) vwCl (wM ad cI cJ Th Ce Le De Ke Kc Ko Kl Kd Ug Ur Va To Tt Td Go Gg Ga Be Bt Si Te Bz Bk) H) (a0 : Int32) (a1 : Int32) (a2 : Int64) (a3 : Int32) (hs : S_X6_multiply a0 a1 a2 a3 Th Ce Le De Ke Kc Ko Kl Kd Va)  (u : Int32 × Int32 × (Nat → Int64) × (Nat → Int32) × Int32 × (Nat → Int64) × (Nat → Int32) × (Nat → Int32) × (Nat → Int32) × (Nat → Int64)) (hu : u = f_X6_multiply a0 a1 a2 a3 Th Ce Le De Ke Kc Ko Kl Kd Va) (k : ∀ (H1 : Heap) (locs1 : List Loc), va_P (dC, dI) vwCl (wM ad cI cJ u.2.1 u.2.2.1 u.2.2.2.1 De u.2.2.2.2.1 u.2.2.2.2.2.1 u.2.2.2.2.2.2.1 u.2.2.2.2.2.2.2.1 u.2.2.2.2.2.2.2.2.1 Ug Ur u.2.2.2.2.2.2.2.2.2 To Tt Td Go Gg Ga Be Bt Si Te Bz Bk) H1 → va_S A0 s.heap H1 locs1 → (∀ q : Nat, q < H.size → ¬ fA 17 ad H.size q → H1[q]? = H[q]?) → H.size ≤ H1.size → W p l e R s m args below meth c H1 locs1 (cells + 0) (slots + 0) Q (F0 m (pc + 3) ls (.int u.1 :: rest))) : W p l e R s m args below meth c H locs cells slots Q (F0 m pc ls (.int a3 :: .long a2 :: .int a1 :: .int a0 :: .ref (ad 0) :: rest)) := by
  subst hu
  exact va_calli (va_runV (As := [.int a0, .int a1, .long a2, .int a3]) (rest := rest) ⟨hx, hb, hml, hown, hts⟩ (c_X6_multiply l dC dI cI cJ ad hi H.size Th Ce Le De Ke Kc Ko Kl Kd Ug Ur Va To Tt Td Go Gg Ga Be Bt Si Te Bz Bk a0 a1 a2 a3 hs) (kV 4 hts hlk mI_X6_multiply mN_RX6 mY_X6_multiply mV_X6_multiply rfl rfl (by decide +kernel) hR) ⟨fun a U g mk q => ⟨q.1, q.2.1, q.2.2.1, va_K.moved (u := U) (U := U.calling g mk a) (Vm.Alike.refl U.vm) q.2.2.2⟩, va_recv hK hP (ci := 8) (q0 := 0) rfl rfl, fun U hU hW => ⟨rfl, by rw [hU], by rw [hU]; exact hP, va_K.moved hW.alike hK⟩⟩ rfl rfl hz rfl (lv_room hw) hd hf) hS (fun q _ h => hA q h) (fun q h => hA q h) (fun r u t H1 locs1 ht hvm hw9 hB hz1 hk1 hS1 => by
    subst hw9
    exact k H1 locs1 (by rw [← ht]; exact hB) hS1 hk1 hz1)

def f_X6_divide (a0 : Int32) (a1 : Int32) (a2 : Int64) (a3 : Int32) (Th : Int32) (Ce : Nat → Int64) (Le : Nat → Int32) (De : Int32) (Ke : Int32) (Kc : Nat → Int64) (Ko : Nat → Int32) (Kl : Nat → Int32) (Kd : Nat → Int32) (Va : Nat → Int64) : Int32 × Int32 × (Nat → Int64) × (Nat → Int32) × Int32 × (Nat → Int64) × (Nat → Int32) × (Nat → Int32) × (Nat → Int32) × (Nat → Int64) := (if (f_X6_in a0.toInt64 (0 : Int64) (2 : Int64)) = 0 then ((0 : Int32), (1 : Int32), Ce, Le, Ke, Kc, Ko, Kl, Kd, Va) else (if (f_X6_isRegister a1) = 0 then ((0 : Int32), (2 : Int32), Ce, Le, Ke, Kc, Ko, Kl, Kd, Va) else (if a2 = (0 : Int64) then ((0 : Int32), (3 : Int32), Ce, Le, Ke, Kc, Ko, Kl, Kd, Va) else (let u6 := f_X6_fetch a0 a1 Ce Va; (let u8 := f_X6_scale a0 a2 (1 : Int32) u6; (let u10 := f_X6_finish a0 a1 a3 (4 : Int32) (0 : Int32) Ce Le De Ke Kc Ko Kl Kd u8; (u10.1, u10.2.1, u10.2.2.1, u10.2.2.2.1, u10.2.2.2.2.1, u10.2.2.2.2.2.1, u10.2.2.2.2.2.2.1, u10.2.2.2.2.2.2.2.1, u10.2.2.2.2.2.2.2.2, u8)))))))
def S_X6_divide (a0 : Int32) (a1 : Int32) (a2 : Int64) (a3 : Int32) (Th : Int32) (Ce : Nat → Int64) (Le : Nat → Int32) (De : Int32) (Ke : Int32) (Kc : Nat → Int64) (Ko : Nat → Int32) (Kl : Nat → Int32) (Kd : Nat → Int32) (Va : Nat → Int64) : Prop := ((f_X6_in a0.toInt64 (0 : Int64) (2 : Int64)) = 0 → (True)) ∧ (¬ (f_X6_in a0.toInt64 (0 : Int64) (2 : Int64)) = 0 → (((f_X6_isRegister a1) = 0 → (True)) ∧ (¬ (f_X6_isRegister a1) = 0 → ((a2 = (0 : Int64) → (True)) ∧ (¬ a2 = (0 : Int64) → ((S_X6_fetch a0 a1 Ce Va) ∧ (∀ u6, u6 = f_X6_fetch a0 a1 Ce Va → ((S_X6_scale a0 a2 (1 : Int32) u6) ∧ (∀ u8, u8 = f_X6_scale a0 a2 (1 : Int32) u6 → ((S_X6_finish a0 a1 a3 (4 : Int32) (0 : Int32) Ce Le De Ke Kc Ko Kl Kd u8) ∧ (∀ u10, u10 = f_X6_finish a0 a1 a3 (4 : Int32) (0 : Int32) Ce Le De Ke Kc Ko Kl Kd u8 → (True))))))))))))
set_option maxHeartbeats 4000000 in
set_option maxRecDepth 100000 in
theorem c_X6_divide (l : Launch) (dC : Nat → ClassId) (dI : Nat → Nat → Nat) (cI cJ : ClassId) (ad : Nat → Nat) (hi : fI 17 ad) (sz : Nat) (Th : Int32) (Ce : Nat → Int64) (Le : Nat → Int32) (De : Int32) (Ke : Int32) (Kc : Nat → Int64) (Ko : Nat → Int32) (Kl : Nat → Int32) (Kd : Nat → Int32) (Ug : Nat → Int64) (Ur : Nat → Int64) (Va : Nat → Int64) (To : Int32) (Tt : Nat → Int32) (Td : Nat → Int32) (Go : Int32) (Gg : Nat → Int32) (Ga : Nat → Int32) (Be : Int32) (Bt : Nat → Int32) (Si : Int32) (Te : Nat → Int32) (Bz : Int32) (Bk : Nat → Int32) (a0 : Int32) (a1 : Int32) (a2 : Int64) (a3 : Int32) (hs : S_X6_divide a0 a1 a2 a3 Th Ce Le De Ke Kc Ko Kl Kd Va) : Met l yX6_divide (mW yX6_divide cX6_divide 6 (some .int)) { frames := 4, cells := 0, slots := 0, locals := 92 } (va_Pc [.ref (ad 0), .int a0, .int a1, .long a2, .int a3] (fun U => U.heap.size = sz ∧ va_P (dC, dI) vwCl (wM ad cI cJ Th Ce Le De Ke Kc Ko Kl Kd Ug Ur Va To Tt Td Go Gg Ga Be Bt Si Te Bz Bk) U.heap ∧ va_K (dC, dI) vwCl [(cI, .int), (cJ, .long)] U)) (va_Qi (fun (r : Int32) (_ : Unit) => r = (f_X6_divide a0 a1 a2 a3 Th Ce Le De Ke Kc Ko Kl Kd Va).1) (fun _ t => va_P (dC, dI) vwCl (wM ad cI cJ ((f_X6_divide a0 a1 a2 a3 Th Ce Le De Ke Kc Ko Kl Kd Va).2.1) ((f_X6_divide a0 a1 a2 a3 Th Ce Le De Ke Kc Ko Kl Kd Va).2.2.1) ((f_X6_divide a0 a1 a2 a3 Th Ce Le De Ke Kc Ko Kl Kd Va).2.2.2.1) De ((f_X6_divide a0 a1 a2 a3 Th Ce Le De Ke Kc Ko Kl Kd Va).2.2.2.2.1) ((f_X6_divide a0 a1 a2 a3 Th Ce Le De Ke Kc Ko Kl Kd Va).2.2.2.2.2.1) ((f_X6_divide a0 a1 a2 a3 Th Ce Le De Ke Kc Ko Kl Kd Va).2.2.2.2.2.2.1) ((f_X6_divide a0 a1 a2 a3 Th Ce Le De Ke Kc Ko Kl Kd Va).2.2.2.2.2.2.2.1) ((f_X6_divide a0 a1 a2 a3 Th Ce Le De Ke Kc Ko Kl Kd Va).2.2.2.2.2.2.2.2.1) Ug Ur ((f_X6_divide a0 a1 a2 a3 Th Ce Le De Ke Kc Ko Kl Kd Va).2.2.2.2.2.2.2.2.2) To Tt Td Go Gg Ga Be Bt Si Te Bz Bk) t.heap) (fA 17 ad sz)) 0 0 (fA 17 ad sz) := by
  refine Met.ofW (cc := cX6_divide) (maxL := 6) (ret := (some .int)) (by decide) rfl ?_
  intro p e s m args below meth c s₁ B hml hv
  obtain ⟨rfl, hsz, hP, hK⟩ := hv
  have hx := B.exec
  have hb := B.bytes
  have hr := B.returns
  have hts := mW_hts (atoms_spec (ws := (mW yX6_divide cX6_divide 6 (some .int))) B.pre)
  have hown : s.vm.findClass RX6 = some m.cls := findClass_of_methodNamed B.named
  have hlocks := B.notSynchronized
  subst hsz
  have hA : ∀ (n : Nat) (q : Nat), s.heap.size ≤ n → n ≤ q → fA 17 ad s.heap.size q := fun n q h1 h2 => Or.inr (Nat.le_trans h1 h2)
  have hS : va_S (fA 17 ad s.heap.size) s.heap s.heap [] := va_S.rf
  have hA : ∀ q, s.heap.size ≤ q → (fA 17 ad s.heap.size) q := fun q h => Or.inr h
  unfold S_X6_divide at hs
  have hl := lv_entry ([.ref (ad 0), .int a0, .int a1, .long a2, .int a3]) (n := 6) (Nat.le_of_ble_eq_true rfl)
  rw [lg_entry_eq]
  generalize (lg_sl ([.ref (ad 0), .int a0, .int a1, .long a2, .int a3]) ++ List.replicate (6 - (lg_sl ([.ref (ad 0), .int a0, .int a1, .long a2, .int a3])).length) Slot.unset).toArray = ls at hl ⊢
  have hl : lv_has ls 6 [(0, .ref (ad 0)), (1, .int a0), (2, .int a1), (3, .long a2), (5, .int a3)] := hl
  refine W_gen (fun Q9 hQ9 => ?_)
  refine lv_aload_n hx hb dX6_divide_0 rfl (lv_at hl 0 rfl) ?_
  refine lv_iload_n hx hb dX6_divide_1 rfl (lv_at hl 1 rfl) ?_
  refine lv_i2l hx hb dX6_divide_2 rfl ?_
  refine lv_lconst (v := 0) hx hb dX6_divide_3 (by decide) ?_
  refine lv_ldc2 hx hb hown (hts _ mK_RX6_121) dX6_divide_4 ?_
  refine q_X6_in hx hb hml hown hts mM_RX6_67 ⟨Nat.le_of_ble_eq_true rfl, Nat.le_of_ble_eq_true rfl⟩ ⟨Nat.le_of_ble_eq_true rfl, Nat.le_of_ble_eq_true rfl⟩ hl.1 (Nat.le_of_ble_eq_true rfl) hS dX6_divide_7 hA a0.toInt64 (0 : Int64) (2 : Int64) (fun locs hS => ?_)
  refine lv_if_ne (tgt := 17) hx hb dX6_divide_10 (by decide) (fun c1 => ?_) (fun c1 => ?_)
  · have hs := hs.2 c1
    refine lv_iload_n hx hb dX6_divide_17 rfl (lv_at hl 2 rfl) ?_
    refine q_X6_isRegister hx hb hml hown hts mM_RX6_114 ⟨Nat.le_of_ble_eq_true rfl, Nat.le_of_ble_eq_true rfl⟩ ⟨Nat.le_of_ble_eq_true rfl, Nat.le_of_ble_eq_true rfl⟩ hl.1 (Nat.le_of_ble_eq_true rfl) hS dX6_divide_18 hA a1 (fun locs hS => ?_)
    refine lv_if_ne (tgt := 28) hx hb dX6_divide_21 (by decide) (fun c2 => ?_) (fun c2 => ?_)
    · have hs := hs.2 c2
      refine lv_lload_n hx hb dX6_divide_28 rfl (lv_at hl 3 rfl) ?_
      refine lv_lconst (v := 0) hx hb dX6_divide_29 (by decide) ?_
      refine W.lcmp hx hb dX6_divide_30 ?_
      refine lv_if_ne (tgt := 38) hx hb dX6_divide_31 (by decide) (fun c3 => ?_) (fun c3 => ?_)
      · have c3 : ¬ a2 = (0 : Int64) := fun z => c3 (lc_eq.mpr z)
        have hs := hs.2 c3
        refine lv_iconst (v := 0) hx hb dX6_divide_38 (by decide) ?_
        refine va_put (D := (dC, dI)) (ci := 8) (v := .int (0 : Int32)) (ty := .int) (C := RX6) (T := TX6) (N := 24) hx hb hts iW_X6 tyX6 tyX6_ok nmX6 hown hK hP (fA_D hi rfl) hS 0 rfl rfl 0 (by decide) (hts _ mF_RX6_61) (fun _ h9 => h9) rfl (by decide +kernel) rfl rfl (Nat.le_of_ble_eq_true rfl) dX6_divide_39 (fun H locs hP _ hS => ?_)
        have hP : va_P (dC, dI) vwCl (wM ad cI cJ (0 : Int32) Ce Le De Ke Kc Ko Kl Kd Ug Ur Va To Tt Td Go Gg Ga Be Bt Si Te Bz Bk) H := hP
        refine lv_aload_n hx hb dX6_divide_42 rfl (lv_at hl 0 rfl) ?_
        refine va_get (D := (dC, dI)) (ci := 8) (v := .int (0 : Int32)) (C := RX6) (T := TX6) (N := 24) hx hb hts iW_X6 hown hK hP 0 rfl rfl 0 (by decide) (hts _ mF_RX6_61) (fun _ h9 => h9) rfl dX6_divide_43 ?_
        refine lv_if_le (tgt := 51) hx hb dX6_divide_46 (by decide) (fun c4 => ?_) (fun c4 => ?_)
        · refine lv_aload_n hx hb dX6_divide_51 rfl (lv_at hl 0 rfl) ?_
          refine lv_iload_n hx hb dX6_divide_52 rfl (lv_at hl 1 rfl) ?_
          refine lv_iload_n hx hb dX6_divide_53 rfl (lv_at hl 2 rfl) ?_
          obtain ⟨h5, hs⟩ := hs
          obtain ⟨u6, hu6⟩ : ∃ z, z = f_X6_fetch a0 a1 Ce Va := ⟨_, rfl⟩
          have hs := hs u6 hu6
          refine q_X6_fetch hx hb hml hown hts mM_RX6_123 ⟨Nat.le_of_ble_eq_true rfl, Nat.le_of_ble_eq_true rfl⟩ ⟨Nat.le_of_ble_eq_true rfl, Nat.le_of_ble_eq_true rfl⟩ hl.1 (Nat.le_of_ble_eq_true rfl) hS dX6_divide_54 (fun _ h9 => fA_mono hS.1 h9) hi hK hP a0 a1 h5 u6 hu6 (fun H locs hP hS => ?_)
          refine lv_aload_n hx hb dX6_divide_57 rfl (lv_at hl 0 rfl) ?_
          refine lv_iload_n hx hb dX6_divide_58 rfl (lv_at hl 1 rfl) ?_
          refine lv_lload_n hx hb dX6_divide_59 rfl (lv_at hl 3 rfl) ?_
          refine lv_iconst (v := 1) hx hb dX6_divide_60 (by decide) ?_
          obtain ⟨h7, hs⟩ := hs
          obtain ⟨u8, hu8⟩ : ∃ z, z = f_X6_scale a0 a2 (1 : Int32) u6 := ⟨_, rfl⟩
          have hs := hs u8 hu8
          refine q_X6_scale hx hb hml hown hts mM_RX6_134 ⟨Nat.le_of_ble_eq_true rfl, Nat.le_of_ble_eq_true rfl⟩ ⟨Nat.le_of_ble_eq_true rfl, Nat.le_of_ble_eq_true rfl⟩ hl.1 (Nat.le_of_ble_eq_true rfl) hS dX6_divide_61 (fun _ h9 => fA_mono hS.1 h9) hi hK hP a0 a2 (1 : Int32) h7 u8 hu8 (fun H locs hP hS => ?_)
          refine lv_aload_n hx hb dX6_divide_64 rfl (lv_at hl 0 rfl) ?_
          refine lv_iload_n hx hb dX6_divide_65 rfl (lv_at hl 1 rfl) ?_
          refine lv_iload_n hx hb dX6_divide_66 rfl (lv_at hl 2 rfl) ?_
          refine lv_iload hx hb dX6_divide_67 (lv_at hl 4 rfl) ?_
          refine lv_iconst (v := 4) hx hb dX6_divide_69 (by decide) ?_
          obtain ⟨h9, hs⟩ := hs
          obtain ⟨u10, hu10⟩ : ∃ z, z = f_X6_finish a0 a1 a3 (4 : Int32) (0 : Int32) Ce Le De Ke Kc Ko Kl Kd u8 := ⟨_, rfl⟩
          have hs := hs u10 hu10
          refine q_X6_finish hx hb hml hown hts mM_RX6_117 ⟨Nat.le_of_ble_eq_true rfl, Nat.le_of_ble_eq_true rfl⟩ ⟨Nat.le_of_ble_eq_true rfl, Nat.le_of_ble_eq_true rfl⟩ hl.1 (Nat.le_of_ble_eq_true rfl) hS dX6_divide_70 (fun _ h9 => fA_mono hS.1 h9) hi hK hP a0 a1 a3 (4 : Int32) h9 u10 hu10 (fun H locs hP hS => ?_)
          rw [hQ9]
          have hf : f_X6_divide a0 a1 a2 a3 Th Ce Le De Ke Kc Ko Kl Kd Va = (u10.1, u10.2.1, u10.2.2.1, u10.2.2.2.1, u10.2.2.2.2.1, u10.2.2.2.2.2.1, u10.2.2.2.2.2.2.1, u10.2.2.2.2.2.2.2.1, u10.2.2.2.2.2.2.2.2, u8) := by simp only [f_X6_divide, if_neg c1, if_neg c2, if_neg c3, ← hu6, ← hu8, ← hu10]
          exact W.iret (v := u10.1) hx hb hr (fun t ht hW => ⟨⟨u10.1, (), rfl, by rw [hf], by rw [hf]; show va_P (dC, dI) vwCl _ t.heap; rw [ht]; exact hP⟩, hS.F ht⟩) hS.2.2 dX6_divide_73
        · exact absurd (by decide) c4
      · have c3 : a2 = (0 : Int64) := lc_eq.mp c3
        have hs := hs.1 c3
        refine lv_iconst (v := 3) hx hb dX6_divide_34 (by decide) ?_
        refine lv_goto (tgt := 39) hx hb dX6_divide_35 (by decide) ?_
        refine va_put (D := (dC, dI)) (ci := 8) (v := .int (3 : Int32)) (ty := .int) (C := RX6) (T := TX6) (N := 24) hx hb hts iW_X6 tyX6 tyX6_ok nmX6 hown hK hP (fA_D hi rfl) hS 0 rfl rfl 0 (by decide) (hts _ mF_RX6_61) (fun _ h9 => h9) rfl (by decide +kernel) rfl rfl (Nat.le_of_ble_eq_true rfl) dX6_divide_39 (fun H locs hP _ hS => ?_)
        have hP : va_P (dC, dI) vwCl (wM ad cI cJ (3 : Int32) Ce Le De Ke Kc Ko Kl Kd Ug Ur Va To Tt Td Go Gg Ga Be Bt Si Te Bz Bk) H := hP
        refine lv_aload_n hx hb dX6_divide_42 rfl (lv_at hl 0 rfl) ?_
        refine va_get (D := (dC, dI)) (ci := 8) (v := .int (3 : Int32)) (C := RX6) (T := TX6) (N := 24) hx hb hts iW_X6 hown hK hP 0 rfl rfl 0 (by decide) (hts _ mF_RX6_61) (fun _ h9 => h9) rfl dX6_divide_43 ?_
        refine lv_if_le (tgt := 51) hx hb dX6_divide_46 (by decide) (fun c11 => ?_) (fun c11 => ?_)
        · exact absurd c11 (by decide)
        · refine lv_iconst (v := 0) hx hb dX6_divide_49 (by decide) ?_
          rw [hQ9]
          have hf : f_X6_divide a0 a1 a2 a3 Th Ce Le De Ke Kc Ko Kl Kd Va = ((0 : Int32), (3 : Int32), Ce, Le, Ke, Kc, Ko, Kl, Kd, Va) := by simp only [f_X6_divide, if_neg c1, if_neg c2, if_pos c3]
          exact W.iret (v := (0 : Int32)) hx hb hr (fun t ht hW => ⟨⟨(0 : Int32), (), rfl, by rw [hf], by rw [hf]; show va_P (dC, dI) vwCl _ t.heap; rw [ht]; exact hP⟩, hS.F ht⟩) hS.2.2 dX6_divide_50
    · have hs := hs.1 c2
      refine lv_iconst (v := 2) hx hb dX6_divide_24 (by decide) ?_
      refine lv_goto (tgt := 39) hx hb dX6_divide_25 (by decide) ?_
      refine va_put (D := (dC, dI)) (ci := 8) (v := .int (2 : Int32)) (ty := .int) (C := RX6) (T := TX6) (N := 24) hx hb hts iW_X6 tyX6 tyX6_ok nmX6 hown hK hP (fA_D hi rfl) hS 0 rfl rfl 0 (by decide) (hts _ mF_RX6_61) (fun _ h9 => h9) rfl (by decide +kernel) rfl rfl (Nat.le_of_ble_eq_true rfl) dX6_divide_39 (fun H locs hP _ hS => ?_)
      have hP : va_P (dC, dI) vwCl (wM ad cI cJ (2 : Int32) Ce Le De Ke Kc Ko Kl Kd Ug Ur Va To Tt Td Go Gg Ga Be Bt Si Te Bz Bk) H := hP
      refine lv_aload_n hx hb dX6_divide_42 rfl (lv_at hl 0 rfl) ?_
      refine va_get (D := (dC, dI)) (ci := 8) (v := .int (2 : Int32)) (C := RX6) (T := TX6) (N := 24) hx hb hts iW_X6 hown hK hP 0 rfl rfl 0 (by decide) (hts _ mF_RX6_61) (fun _ h9 => h9) rfl dX6_divide_43 ?_
      refine lv_if_le (tgt := 51) hx hb dX6_divide_46 (by decide) (fun c12 => ?_) (fun c12 => ?_)
      · exact absurd c12 (by decide)
      · refine lv_iconst (v := 0) hx hb dX6_divide_49 (by decide) ?_
        rw [hQ9]
        have hf : f_X6_divide a0 a1 a2 a3 Th Ce Le De Ke Kc Ko Kl Kd Va = ((0 : Int32), (2 : Int32), Ce, Le, Ke, Kc, Ko, Kl, Kd, Va) := by simp only [f_X6_divide, if_neg c1, if_pos c2]
        exact W.iret (v := (0 : Int32)) hx hb hr (fun t ht hW => ⟨⟨(0 : Int32), (), rfl, by rw [hf], by rw [hf]; show va_P (dC, dI) vwCl _ t.heap; rw [ht]; exact hP⟩, hS.F ht⟩) hS.2.2 dX6_divide_50
  · have hs := hs.1 c1
    refine lv_iconst (v := 1) hx hb dX6_divide_13 (by decide) ?_
    refine lv_goto (tgt := 39) hx hb dX6_divide_14 (by decide) ?_
    refine va_put (D := (dC, dI)) (ci := 8) (v := .int (1 : Int32)) (ty := .int) (C := RX6) (T := TX6) (N := 24) hx hb hts iW_X6 tyX6 tyX6_ok nmX6 hown hK hP (fA_D hi rfl) hS 0 rfl rfl 0 (by decide) (hts _ mF_RX6_61) (fun _ h9 => h9) rfl (by decide +kernel) rfl rfl (Nat.le_of_ble_eq_true rfl) dX6_divide_39 (fun H locs hP _ hS => ?_)
    have hP : va_P (dC, dI) vwCl (wM ad cI cJ (1 : Int32) Ce Le De Ke Kc Ko Kl Kd Ug Ur Va To Tt Td Go Gg Ga Be Bt Si Te Bz Bk) H := hP
    refine lv_aload_n hx hb dX6_divide_42 rfl (lv_at hl 0 rfl) ?_
    refine va_get (D := (dC, dI)) (ci := 8) (v := .int (1 : Int32)) (C := RX6) (T := TX6) (N := 24) hx hb hts iW_X6 hown hK hP 0 rfl rfl 0 (by decide) (hts _ mF_RX6_61) (fun _ h9 => h9) rfl dX6_divide_43 ?_
    refine lv_if_le (tgt := 51) hx hb dX6_divide_46 (by decide) (fun c13 => ?_) (fun c13 => ?_)
    · exact absurd c13 (by decide)
    · refine lv_iconst (v := 0) hx hb dX6_divide_49 (by decide) ?_
      rw [hQ9]
      have hf : f_X6_divide a0 a1 a2 a3 Th Ce Le De Ke Kc Ko Kl Kd Va = ((0 : Int32), (1 : Int32), Ce, Le, Ke, Kc, Ko, Kl, Kd, Va) := by simp only [f_X6_divide, if_pos c1]
      exact W.iret (v := (0 : Int32)) hx hb hr (fun t ht hW => ⟨⟨(0 : Int32), (), rfl, by rw [hf], by rw [hf]; show va_P (dC, dI) vwCl _ t.heap; rw [ht]; exact hP⟩, hS.F ht⟩) hS.2.2 dX6_divide_50
theorem q_X6_divide {p : Program} {l : Launch} {e : Env} {R : Room} {s : State} {m : MethodId} {args : Array Value} {below : List Frame} {meth : Method} {c : Code} {H : Heap} {locs : List Loc} {cells slots : Nat} {Q : State → Prop} {pc : Nat} {ls : Array Slot} {rest : List Value} {cc : ByteArray} {nL idx : Nat} {own : String} {A0 : Nat → Prop} {dC : Nat → ClassId} {dI : Nat → Nat → Nat} {cI cJ : ClassId} {ad : Nat → Nat} {Th : Int32} {Ce : Nat → Int64} {Le : Nat → Int32} {De : Int32} {Ke : Int32} {Kc : Nat → Int64} {Ko : Nat → Int32} {Kl : Nat → Int32} {Kd : Nat → Int32} {Ug : Nat → Int64} {Ur : Nat → Int64} {Va : Nat → Int64} {To : Int32} {Tt : Nat → Int32} {Td : Nat → Int32} {Go : Int32} {Gg : Nat → Int32} {Ga : Nat → Int32} {Be : Int32} {Bt : Nat → Int32} {Si : Int32} {Te : Nat → Int32} {Bz : Int32} {Bk : Nat → Int32} (hx : p.tables.exec = Jvm.exec) (hb : c.code = cc) (hml : c.maxLocals = nL) (hown : s.vm.findClass own = some m.cls) (hts : ∀ w ∈ bigW, w.before args s = true) (hlk : Cond.methodLink own idx yX6_divide ∈ bigW) (hR : 5 ≤ R.frames ∧ 117 ≤ R.locals) (hf : cells + 0 ≤ R.cells ∧ slots + 0 ≤ R.slots) (hz : ls.size = nL) (hw : (rest.map fun v => v.category).sum ≤ 8) (hS : va_S A0 s.heap H locs) (hd : decode cc pc = .ok (.invokevirtual idx, 3)) (hA : ∀ q, fA 17 ad H.size q → A0 q) (hi : fI 17 ad) (hK : va_K (dC, dI) vwCl [(cI, .int), (cJ, .long)] s) (hP : va_P (dC, dI) vwCl (wM ad cI cJ Th Ce Le De Ke Kc Ko Kl Kd Ug Ur Va To Tt Td Go Gg Ga Be Bt Si Te Bz Bk) H) (a0 : Int32) (a1 : Int32) (a2 : Int64) (a3 : Int32) (hs : S_X6_divide a0 a1 a2 a3 Th Ce Le De Ke Kc Ko Kl Kd Va)  (u : Int32 × Int32 × (Nat → Int64) × (Nat → Int32) × Int32 × (Nat → Int64) × (Nat → Int32) × (Nat → Int32) × (Nat → Int32) × (Nat → Int64)) (hu : u = f_X6_divide a0 a1 a2 a3 Th Ce Le De Ke Kc Ko Kl Kd Va) (k : ∀ (H1 : Heap) (locs1 : List Loc), va_P (dC, dI) vwCl (wM ad cI cJ u.2.1 u.2.2.1 u.2.2.2.1 De u.2.2.2.2.1 u.2.2.2.2.2.1 u.2.2.2.2.2.2.1 u.2.2.2.2.2.2.2.1 u.2.2.2.2.2.2.2.2.1 Ug Ur u.2.2.2.2.2.2.2.2.2 To Tt Td Go Gg Ga Be Bt Si Te Bz Bk) H1 → va_S A0 s.heap H1 locs1 → W p l e R s m args below meth c H1 locs1 (cells + 0) (slots + 0) Q (F0 m (pc + 3) ls (.int u.1 :: rest))) : W p l e R s m args below meth c H locs cells slots Q (F0 m pc ls (.int a3 :: .long a2 :: .int a1 :: .int a0 :: .ref (ad 0) :: rest)) := by
  subst hu
  exact va_calli (va_runV (As := [.int a0, .int a1, .long a2, .int a3]) (rest := rest) ⟨hx, hb, hml, hown, hts⟩ (c_X6_divide l dC dI cI cJ ad hi H.size Th Ce Le De Ke Kc Ko Kl Kd Ug Ur Va To Tt Td Go Gg Ga Be Bt Si Te Bz Bk a0 a1 a2 a3 hs) (kV 4 hts hlk mI_X6_divide mN_RX6 mY_X6_divide mV_X6_divide rfl rfl (by decide +kernel) hR) ⟨fun a U g mk q => ⟨q.1, q.2.1, q.2.2.1, va_K.moved (u := U) (U := U.calling g mk a) (Vm.Alike.refl U.vm) q.2.2.2⟩, va_recv hK hP (ci := 8) (q0 := 0) rfl rfl, fun U hU hW => ⟨rfl, by rw [hU], by rw [hU]; exact hP, va_K.moved hW.alike hK⟩⟩ rfl rfl hz rfl (lv_room hw) hd hf) hS (fun q _ h => hA q h) (fun q h => hA q h) (fun r u t H1 locs1 ht hvm hw9 hB hz1 hk1 hS1 => by
    subst hw9
    exact k H1 locs1 (by rw [← ht]; exact hB) hS1)
theorem qf_X6_divide {p : Program} {l : Launch} {e : Env} {R : Room} {s : State} {m : MethodId} {args : Array Value} {below : List Frame} {meth : Method} {c : Code} {H : Heap} {locs : List Loc} {cells slots : Nat} {Q : State → Prop} {pc : Nat} {ls : Array Slot} {rest : List Value} {cc : ByteArray} {nL idx : Nat} {own : String} {A0 : Nat → Prop} {dC : Nat → ClassId} {dI : Nat → Nat → Nat} {cI cJ : ClassId} {ad : Nat → Nat} {Th : Int32} {Ce : Nat → Int64} {Le : Nat → Int32} {De : Int32} {Ke : Int32} {Kc : Nat → Int64} {Ko : Nat → Int32} {Kl : Nat → Int32} {Kd : Nat → Int32} {Ug : Nat → Int64} {Ur : Nat → Int64} {Va : Nat → Int64} {To : Int32} {Tt : Nat → Int32} {Td : Nat → Int32} {Go : Int32} {Gg : Nat → Int32} {Ga : Nat → Int32} {Be : Int32} {Bt : Nat → Int32} {Si : Int32} {Te : Nat → Int32} {Bz : Int32} {Bk : Nat → Int32} (hx : p.tables.exec = Jvm.exec) (hb : c.code = cc) (hml : c.maxLocals = nL) (hown : s.vm.findClass own = some m.cls) (hts : ∀ w ∈ bigW, w.before args s = true) (hlk : Cond.methodLink own idx yX6_divide ∈ bigW) (hR : 5 ≤ R.frames ∧ 117 ≤ R.locals) (hf : cells + 0 ≤ R.cells ∧ slots + 0 ≤ R.slots) (hz : ls.size = nL) (hw : (rest.map fun v => v.category).sum ≤ 8) (hS : va_S A0 s.heap H locs) (hd : decode cc pc = .ok (.invokevirtual idx, 3)) (hA : ∀ q, fA 17 ad H.size q → A0 q) (hi : fI 17 ad) (hK : va_K (dC, dI) vwCl [(cI, .int), (cJ, .long)] s) (hP : va_P (dC, dI) vwCl (wM ad cI cJ Th Ce Le De Ke Kc Ko Kl Kd Ug Ur Va To Tt Td Go Gg Ga Be Bt Si Te Bz Bk) H) (a0 : Int32) (a1 : Int32) (a2 : Int64) (a3 : Int32) (hs : S_X6_divide a0 a1 a2 a3 Th Ce Le De Ke Kc Ko Kl Kd Va)  (u : Int32 × Int32 × (Nat → Int64) × (Nat → Int32) × Int32 × (Nat → Int64) × (Nat → Int32) × (Nat → Int32) × (Nat → Int32) × (Nat → Int64)) (hu : u = f_X6_divide a0 a1 a2 a3 Th Ce Le De Ke Kc Ko Kl Kd Va) (k : ∀ (H1 : Heap) (locs1 : List Loc), va_P (dC, dI) vwCl (wM ad cI cJ u.2.1 u.2.2.1 u.2.2.2.1 De u.2.2.2.2.1 u.2.2.2.2.2.1 u.2.2.2.2.2.2.1 u.2.2.2.2.2.2.2.1 u.2.2.2.2.2.2.2.2.1 Ug Ur u.2.2.2.2.2.2.2.2.2 To Tt Td Go Gg Ga Be Bt Si Te Bz Bk) H1 → va_S A0 s.heap H1 locs1 → (∀ q : Nat, q < H.size → ¬ fA 17 ad H.size q → H1[q]? = H[q]?) → H.size ≤ H1.size → W p l e R s m args below meth c H1 locs1 (cells + 0) (slots + 0) Q (F0 m (pc + 3) ls (.int u.1 :: rest))) : W p l e R s m args below meth c H locs cells slots Q (F0 m pc ls (.int a3 :: .long a2 :: .int a1 :: .int a0 :: .ref (ad 0) :: rest)) := by
  subst hu
  exact va_calli (va_runV (As := [.int a0, .int a1, .long a2, .int a3]) (rest := rest) ⟨hx, hb, hml, hown, hts⟩ (c_X6_divide l dC dI cI cJ ad hi H.size Th Ce Le De Ke Kc Ko Kl Kd Ug Ur Va To Tt Td Go Gg Ga Be Bt Si Te Bz Bk a0 a1 a2 a3 hs) (kV 4 hts hlk mI_X6_divide mN_RX6 mY_X6_divide mV_X6_divide rfl rfl (by decide +kernel) hR) ⟨fun a U g mk q => ⟨q.1, q.2.1, q.2.2.1, va_K.moved (u := U) (U := U.calling g mk a) (Vm.Alike.refl U.vm) q.2.2.2⟩, va_recv hK hP (ci := 8) (q0 := 0) rfl rfl, fun U hU hW => ⟨rfl, by rw [hU], by rw [hU]; exact hP, va_K.moved hW.alike hK⟩⟩ rfl rfl hz rfl (lv_room hw) hd hf) hS (fun q _ h => hA q h) (fun q h => hA q h) (fun r u t H1 locs1 ht hvm hw9 hB hz1 hk1 hS1 => by
    subst hw9
    exact k H1 locs1 (by rw [← ht]; exact hB) hS1 hk1 hz1)

def f_X6_take (a0 : Int32) (Th : Int32) (Ce : Nat → Int64) : Int32 × Int32 × (Nat → Int64) := (if (f_X6_isRegister a0) = 0 then ((0 : Int32), (1 : Int32), Ce) else ((Ce ((21 : Int32) * ((128 : Int32) + a0)).toNatClampNeg).toInt32, (0 : Int32), (vp_updL Ce ((21 : Int32) * ((128 : Int32) + a0)).toNatClampNeg (-1 : Int64))))
def S_X6_take (a0 : Int32) (Th : Int32) (Ce : Nat → Int64) : Prop := ((f_X6_isRegister a0) = 0 → (True)) ∧ (¬ (f_X6_isRegister a0) = 0 → ((vp_in ((21 : Int32) * ((128 : Int32) + a0)) 3360) ∧ ((vp_in ((21 : Int32) * ((128 : Int32) + a0)) 3360) ∧ (True))))
set_option maxHeartbeats 4000000 in
set_option maxRecDepth 100000 in
theorem c_X6_take (l : Launch) (dC : Nat → ClassId) (dI : Nat → Nat → Nat) (cI cJ : ClassId) (ad : Nat → Nat) (hi : fI 17 ad) (sz : Nat) (Th : Int32) (Ce : Nat → Int64) (Le : Nat → Int32) (De : Int32) (Ke : Int32) (Kc : Nat → Int64) (Ko : Nat → Int32) (Kl : Nat → Int32) (Kd : Nat → Int32) (Ug : Nat → Int64) (Ur : Nat → Int64) (Va : Nat → Int64) (To : Int32) (Tt : Nat → Int32) (Td : Nat → Int32) (Go : Int32) (Gg : Nat → Int32) (Ga : Nat → Int32) (Be : Int32) (Bt : Nat → Int32) (Si : Int32) (Te : Nat → Int32) (Bz : Int32) (Bk : Nat → Int32) (a0 : Int32) (hs : S_X6_take a0 Th Ce) : Met l yX6_take (mW yX6_take cX6_take 4 (some .int)) { frames := 2, cells := 0, slots := 0, locals := 45 } (va_Pc [.ref (ad 0), .int a0] (fun U => U.heap.size = sz ∧ va_P (dC, dI) vwCl (wM ad cI cJ Th Ce Le De Ke Kc Ko Kl Kd Ug Ur Va To Tt Td Go Gg Ga Be Bt Si Te Bz Bk) U.heap ∧ va_K (dC, dI) vwCl [(cI, .int), (cJ, .long)] U)) (va_Qi (fun (r : Int32) (_ : Unit) => r = (f_X6_take a0 Th Ce).1) (fun _ t => va_P (dC, dI) vwCl (wM ad cI cJ ((f_X6_take a0 Th Ce).2.1) ((f_X6_take a0 Th Ce).2.2) Le De Ke Kc Ko Kl Kd Ug Ur Va To Tt Td Go Gg Ga Be Bt Si Te Bz Bk) t.heap) (fA 17 ad sz)) 0 0 (fA 17 ad sz) := by
  refine Met.ofW (cc := cX6_take) (maxL := 4) (ret := (some .int)) (by decide) rfl ?_
  intro p e s m args below meth c s₁ B hml hv
  obtain ⟨rfl, hsz, hP, hK⟩ := hv
  have hx := B.exec
  have hb := B.bytes
  have hr := B.returns
  have hts := mW_hts (atoms_spec (ws := (mW yX6_take cX6_take 4 (some .int))) B.pre)
  have hown : s.vm.findClass RX6 = some m.cls := findClass_of_methodNamed B.named
  have hlocks := B.notSynchronized
  subst hsz
  have hA : ∀ (n : Nat) (q : Nat), s.heap.size ≤ n → n ≤ q → fA 17 ad s.heap.size q := fun n q h1 h2 => Or.inr (Nat.le_trans h1 h2)
  have hS : va_S (fA 17 ad s.heap.size) s.heap s.heap [] := va_S.rf
  have hA : ∀ q, s.heap.size ≤ q → (fA 17 ad s.heap.size) q := fun q h => Or.inr h
  unfold S_X6_take at hs
  have hl := lv_entry ([.ref (ad 0), .int a0]) (n := 4) (Nat.le_of_ble_eq_true rfl)
  rw [lg_entry_eq]
  generalize (lg_sl ([.ref (ad 0), .int a0]) ++ List.replicate (4 - (lg_sl ([.ref (ad 0), .int a0])).length) Slot.unset).toArray = ls at hl ⊢
  have hl : lv_has ls 4 [(0, .ref (ad 0)), (1, .int a0)] := hl
  refine W_gen (fun Q9 hQ9 => ?_)
  refine lv_aload_n hx hb dX6_take_0 rfl (lv_at hl 0 rfl) ?_
  refine lv_iload_n hx hb dX6_take_1 rfl (lv_at hl 1 rfl) ?_
  refine q_X6_isRegister hx hb hml hown hts mM_RX6_114 ⟨Nat.le_of_ble_eq_true rfl, Nat.le_of_ble_eq_true rfl⟩ ⟨Nat.le_of_ble_eq_true rfl, Nat.le_of_ble_eq_true rfl⟩ hl.1 (Nat.le_of_ble_eq_true rfl) hS dX6_take_2 hA a0 (fun locs hS => ?_)
  refine lv_if_eq (tgt := 12) hx hb dX6_take_5 (by decide) (fun c1 => ?_) (fun c1 => ?_)
  · have hs := hs.1 c1
    refine lv_iconst (v := 1) hx hb dX6_take_12 (by decide) ?_
    refine va_put (D := (dC, dI)) (ci := 8) (v := .int (1 : Int32)) (ty := .int) (C := RX6) (T := TX6) (N := 24) hx hb hts iW_X6 tyX6 tyX6_ok nmX6 hown hK hP (fA_D hi rfl) hS 0 rfl rfl 0 (by decide) (hts _ mF_RX6_61) (fun _ h9 => h9) rfl (by decide +kernel) rfl rfl (Nat.le_of_ble_eq_true rfl) dX6_take_13 (fun H locs hP _ hS => ?_)
    have hP : va_P (dC, dI) vwCl (wM ad cI cJ (1 : Int32) Ce Le De Ke Kc Ko Kl Kd Ug Ur Va To Tt Td Go Gg Ga Be Bt Si Te Bz Bk) H := hP
    refine lv_aload_n hx hb dX6_take_16 rfl (lv_at hl 0 rfl) ?_
    refine va_get (D := (dC, dI)) (ci := 8) (v := .int (1 : Int32)) (C := RX6) (T := TX6) (N := 24) hx hb hts iW_X6 hown hK hP 0 rfl rfl 0 (by decide) (hts _ mF_RX6_61) (fun _ h9 => h9) rfl dX6_take_17 ?_
    refine lv_if_le (tgt := 25) hx hb dX6_take_20 (by decide) (fun c2 => ?_) (fun c2 => ?_)
    · exact absurd c2 (by decide)
    · refine lv_iconst (v := 0) hx hb dX6_take_23 (by decide) ?_
      rw [hQ9]
      have hf : f_X6_take a0 Th Ce = ((0 : Int32), (1 : Int32), Ce) := by simp only [f_X6_take, if_pos c1]
      exact W.iret (v := (0 : Int32)) hx hb hr (fun t ht hW => ⟨⟨(0 : Int32), (), rfl, by rw [hf], by rw [hf]; show va_P (dC, dI) vwCl _ t.heap; rw [ht]; exact hP⟩, hS.F ht⟩) hS.2.2 dX6_take_24
  · have hs := hs.2 c1
    refine lv_iconst (v := 0) hx hb dX6_take_8 (by decide) ?_
    refine lv_goto (tgt := 13) hx hb dX6_take_9 (by decide) ?_
    refine va_put (D := (dC, dI)) (ci := 8) (v := .int (0 : Int32)) (ty := .int) (C := RX6) (T := TX6) (N := 24) hx hb hts iW_X6 tyX6 tyX6_ok nmX6 hown hK hP (fA_D hi rfl) hS 0 rfl rfl 0 (by decide) (hts _ mF_RX6_61) (fun _ h9 => h9) rfl (by decide +kernel) rfl rfl (Nat.le_of_ble_eq_true rfl) dX6_take_13 (fun H locs hP _ hS => ?_)
    have hP : va_P (dC, dI) vwCl (wM ad cI cJ (0 : Int32) Ce Le De Ke Kc Ko Kl Kd Ug Ur Va To Tt Td Go Gg Ga Be Bt Si Te Bz Bk) H := hP
    refine lv_aload_n hx hb dX6_take_16 rfl (lv_at hl 0 rfl) ?_
    refine va_get (D := (dC, dI)) (ci := 8) (v := .int (0 : Int32)) (C := RX6) (T := TX6) (N := 24) hx hb hts iW_X6 hown hK hP 0 rfl rfl 0 (by decide) (hts _ mF_RX6_61) (fun _ h9 => h9) rfl dX6_take_17 ?_
    refine lv_if_le (tgt := 25) hx hb dX6_take_20 (by decide) (fun c3 => ?_) (fun c3 => ?_)
    · refine lv_bipush (v := 21) hx hb dX6_take_25 (by decide) ?_
      refine lv_sipush (v := 128) hx hb dX6_take_27 (by decide) ?_
      refine lv_iload_n hx hb dX6_take_30 rfl (lv_at hl 1 rfl) ?_
      refine lv_iadd hx hb dX6_take_31 ?_
      refine lv_imul hx hb dX6_take_32 ?_
      refine lv_istore_n (lv' := [(2, .int ((21 : Int32) * ((128 : Int32) + a0))), (0, .ref (ad 0)), (1, .int a0)]) hx hb dX6_take_33 rfl hl (by decide) rfl (fun ls hl => ?_)
      refine lv_aload_n hx hb dX6_take_34 rfl (lv_at hl 1 rfl) ?_
      refine va_get (D := (dC, dI)) (ci := 8) (v := .ref (ad 1)) (C := RX6) (T := TX6) (N := 24) hx hb hts iW_X6 hown hK hP 0 rfl rfl 1 (by decide) (hts _ mF_RX6_7) (fun _ h9 => h9) rfl dX6_take_35 ?_
      refine lv_iload_n hx hb dX6_take_38 rfl (lv_at hl 0 rfl) ?_
      obtain ⟨h4, hs⟩ := hs
      refine va_lald hx hb hK hP 1 1 rfl rfl h4 dX6_take_39 ?_
      refine lv_l2i hx hb dX6_take_40 rfl ?_
      refine lv_istore_n (lv' := [(3, .int (Ce ((21 : Int32) * ((128 : Int32) + a0)).toNatClampNeg).toInt32), (2, .int ((21 : Int32) * ((128 : Int32) + a0))), (0, .ref (ad 0)), (1, .int a0)]) hx hb dX6_take_41 rfl hl (by decide) rfl (fun ls hl => ?_)
      refine lv_aload_n hx hb dX6_take_42 rfl (lv_at hl 2 rfl) ?_
      refine va_get (D := (dC, dI)) (ci := 8) (v := .ref (ad 1)) (C := RX6) (T := TX6) (N := 24) hx hb hts iW_X6 hown hK hP 0 rfl rfl 1 (by decide) (hts _ mF_RX6_7) (fun _ h9 => h9) rfl dX6_take_43 ?_
      refine lv_iload_n hx hb dX6_take_46 rfl (lv_at hl 1 rfl) ?_
      refine lv_ldc2 hx hb hown (hts _ mK_RX6_59) dX6_take_47 ?_
      obtain ⟨h5, hs⟩ := hs
      refine va_last hx hb hK hP (fA_D hi rfl) hS 1 1 rfl rfl h5 dX6_take_50 (fun H locs hP _ hS => ?_)
      have hP : va_P (dC, dI) vwCl (wM ad cI cJ (0 : Int32) (vp_updL Ce ((21 : Int32) * ((128 : Int32) + a0)).toNatClampNeg (-1 : Int64)) Le De Ke Kc Ko Kl Kd Ug Ur Va To Tt Td Go Gg Ga Be Bt Si Te Bz Bk) H := hP
      refine lv_iload_n hx hb dX6_take_51 rfl (lv_at hl 0 rfl) ?_
      rw [hQ9]
      have hf : f_X6_take a0 Th Ce = ((Ce ((21 : Int32) * ((128 : Int32) + a0)).toNatClampNeg).toInt32, (0 : Int32), (vp_updL Ce ((21 : Int32) * ((128 : Int32) + a0)).toNatClampNeg (-1 : Int64))) := by simp only [f_X6_take, if_neg c1]
      exact W.iret (v := (Ce ((21 : Int32) * ((128 : Int32) + a0)).toNatClampNeg).toInt32) hx hb hr (fun t ht hW => ⟨⟨(Ce ((21 : Int32) * ((128 : Int32) + a0)).toNatClampNeg).toInt32, (), rfl, by rw [hf], by rw [hf]; show va_P (dC, dI) vwCl _ t.heap; rw [ht]; exact hP⟩, hS.F ht⟩) hS.2.2 dX6_take_52
    · exact absurd (by decide) c3
theorem q_X6_take {p : Program} {l : Launch} {e : Env} {R : Room} {s : State} {m : MethodId} {args : Array Value} {below : List Frame} {meth : Method} {c : Code} {H : Heap} {locs : List Loc} {cells slots : Nat} {Q : State → Prop} {pc : Nat} {ls : Array Slot} {rest : List Value} {cc : ByteArray} {nL idx : Nat} {own : String} {A0 : Nat → Prop} {dC : Nat → ClassId} {dI : Nat → Nat → Nat} {cI cJ : ClassId} {ad : Nat → Nat} {Th : Int32} {Ce : Nat → Int64} {Le : Nat → Int32} {De : Int32} {Ke : Int32} {Kc : Nat → Int64} {Ko : Nat → Int32} {Kl : Nat → Int32} {Kd : Nat → Int32} {Ug : Nat → Int64} {Ur : Nat → Int64} {Va : Nat → Int64} {To : Int32} {Tt : Nat → Int32} {Td : Nat → Int32} {Go : Int32} {Gg : Nat → Int32} {Ga : Nat → Int32} {Be : Int32} {Bt : Nat → Int32} {Si : Int32} {Te : Nat → Int32} {Bz : Int32} {Bk : Nat → Int32} (hx : p.tables.exec = Jvm.exec) (hb : c.code = cc) (hml : c.maxLocals = nL) (hown : s.vm.findClass own = some m.cls) (hts : ∀ w ∈ bigW, w.before args s = true) (hlk : Cond.methodLink own idx yX6_take ∈ bigW) (hR : 3 ≤ R.frames ∧ 68 ≤ R.locals) (hf : cells + 0 ≤ R.cells ∧ slots + 0 ≤ R.slots) (hz : ls.size = nL) (hw : (rest.map fun v => v.category).sum ≤ 8) (hS : va_S A0 s.heap H locs) (hd : decode cc pc = .ok (.invokevirtual idx, 3)) (hA : ∀ q, fA 17 ad H.size q → A0 q) (hi : fI 17 ad) (hK : va_K (dC, dI) vwCl [(cI, .int), (cJ, .long)] s) (hP : va_P (dC, dI) vwCl (wM ad cI cJ Th Ce Le De Ke Kc Ko Kl Kd Ug Ur Va To Tt Td Go Gg Ga Be Bt Si Te Bz Bk) H) (a0 : Int32) (hs : S_X6_take a0 Th Ce)  (u : Int32 × Int32 × (Nat → Int64)) (hu : u = f_X6_take a0 Th Ce) (k : ∀ (H1 : Heap) (locs1 : List Loc), va_P (dC, dI) vwCl (wM ad cI cJ u.2.1 u.2.2 Le De Ke Kc Ko Kl Kd Ug Ur Va To Tt Td Go Gg Ga Be Bt Si Te Bz Bk) H1 → va_S A0 s.heap H1 locs1 → W p l e R s m args below meth c H1 locs1 (cells + 0) (slots + 0) Q (F0 m (pc + 3) ls (.int u.1 :: rest))) : W p l e R s m args below meth c H locs cells slots Q (F0 m pc ls (.int a0 :: .ref (ad 0) :: rest)) := by
  subst hu
  exact va_calli (va_runV (As := [.int a0]) (rest := rest) ⟨hx, hb, hml, hown, hts⟩ (c_X6_take l dC dI cI cJ ad hi H.size Th Ce Le De Ke Kc Ko Kl Kd Ug Ur Va To Tt Td Go Gg Ga Be Bt Si Te Bz Bk a0 hs) (kV 1 hts hlk mI_X6_take mN_RX6 mY_X6_take mV_X6_take rfl rfl (by decide +kernel) hR) ⟨fun a U g mk q => ⟨q.1, q.2.1, q.2.2.1, va_K.moved (u := U) (U := U.calling g mk a) (Vm.Alike.refl U.vm) q.2.2.2⟩, va_recv hK hP (ci := 8) (q0 := 0) rfl rfl, fun U hU hW => ⟨rfl, by rw [hU], by rw [hU]; exact hP, va_K.moved hW.alike hK⟩⟩ rfl rfl hz rfl (lv_room hw) hd hf) hS (fun q _ h => hA q h) (fun q h => hA q h) (fun r u t H1 locs1 ht hvm hw9 hB hz1 hk1 hS1 => by
    subst hw9
    exact k H1 locs1 (by rw [← ht]; exact hB) hS1)
theorem qf_X6_take {p : Program} {l : Launch} {e : Env} {R : Room} {s : State} {m : MethodId} {args : Array Value} {below : List Frame} {meth : Method} {c : Code} {H : Heap} {locs : List Loc} {cells slots : Nat} {Q : State → Prop} {pc : Nat} {ls : Array Slot} {rest : List Value} {cc : ByteArray} {nL idx : Nat} {own : String} {A0 : Nat → Prop} {dC : Nat → ClassId} {dI : Nat → Nat → Nat} {cI cJ : ClassId} {ad : Nat → Nat} {Th : Int32} {Ce : Nat → Int64} {Le : Nat → Int32} {De : Int32} {Ke : Int32} {Kc : Nat → Int64} {Ko : Nat → Int32} {Kl : Nat → Int32} {Kd : Nat → Int32} {Ug : Nat → Int64} {Ur : Nat → Int64} {Va : Nat → Int64} {To : Int32} {Tt : Nat → Int32} {Td : Nat → Int32} {Go : Int32} {Gg : Nat → Int32} {Ga : Nat → Int32} {Be : Int32} {Bt : Nat → Int32} {Si : Int32} {Te : Nat → Int32} {Bz : Int32} {Bk : Nat → Int32} (hx : p.tables.exec = Jvm.exec) (hb : c.code = cc) (hml : c.maxLocals = nL) (hown : s.vm.findClass own = some m.cls) (hts : ∀ w ∈ bigW, w.before args s = true) (hlk : Cond.methodLink own idx yX6_take ∈ bigW) (hR : 3 ≤ R.frames ∧ 68 ≤ R.locals) (hf : cells + 0 ≤ R.cells ∧ slots + 0 ≤ R.slots) (hz : ls.size = nL) (hw : (rest.map fun v => v.category).sum ≤ 8) (hS : va_S A0 s.heap H locs) (hd : decode cc pc = .ok (.invokevirtual idx, 3)) (hA : ∀ q, fA 17 ad H.size q → A0 q) (hi : fI 17 ad) (hK : va_K (dC, dI) vwCl [(cI, .int), (cJ, .long)] s) (hP : va_P (dC, dI) vwCl (wM ad cI cJ Th Ce Le De Ke Kc Ko Kl Kd Ug Ur Va To Tt Td Go Gg Ga Be Bt Si Te Bz Bk) H) (a0 : Int32) (hs : S_X6_take a0 Th Ce)  (u : Int32 × Int32 × (Nat → Int64)) (hu : u = f_X6_take a0 Th Ce) (k : ∀ (H1 : Heap) (locs1 : List Loc), va_P (dC, dI) vwCl (wM ad cI cJ u.2.1 u.2.2 Le De Ke Kc Ko Kl Kd Ug Ur Va To Tt Td Go Gg Ga Be Bt Si Te Bz Bk) H1 → va_S A0 s.heap H1 locs1 → (∀ q : Nat, q < H.size → ¬ fA 17 ad H.size q → H1[q]? = H[q]?) → H.size ≤ H1.size → W p l e R s m args below meth c H1 locs1 (cells + 0) (slots + 0) Q (F0 m (pc + 3) ls (.int u.1 :: rest))) : W p l e R s m args below meth c H locs cells slots Q (F0 m pc ls (.int a0 :: .ref (ad 0) :: rest)) := by
  subst hu
  exact va_calli (va_runV (As := [.int a0]) (rest := rest) ⟨hx, hb, hml, hown, hts⟩ (c_X6_take l dC dI cI cJ ad hi H.size Th Ce Le De Ke Kc Ko Kl Kd Ug Ur Va To Tt Td Go Gg Ga Be Bt Si Te Bz Bk a0 hs) (kV 1 hts hlk mI_X6_take mN_RX6 mY_X6_take mV_X6_take rfl rfl (by decide +kernel) hR) ⟨fun a U g mk q => ⟨q.1, q.2.1, q.2.2.1, va_K.moved (u := U) (U := U.calling g mk a) (Vm.Alike.refl U.vm) q.2.2.2⟩, va_recv hK hP (ci := 8) (q0 := 0) rfl rfl, fun U hU hW => ⟨rfl, by rw [hU], by rw [hU]; exact hP, va_K.moved hW.alike hK⟩⟩ rfl rfl hz rfl (lv_room hw) hd hf) hS (fun q _ h => hA q h) (fun q h => hA q h) (fun r u t H1 locs1 ht hvm hw9 hB hz1 hk1 hS1 => by
    subst hw9
    exact k H1 locs1 (by rw [← ht]; exact hB) hS1 hk1 hz1)

def f_X6_group (Th : Int32) (De : Int32) : Int32 × Int32 × Int32 := (if De = (20 : Int32) then ((0 : Int32), (1 : Int32), De) else ((De + (1 : Int32)), (0 : Int32), (De + (1 : Int32))))
set_option maxHeartbeats 4000000 in
set_option maxRecDepth 100000 in
theorem c_X6_group (l : Launch) (dC : Nat → ClassId) (dI : Nat → Nat → Nat) (cI cJ : ClassId) (ad : Nat → Nat) (hi : fI 17 ad) (sz : Nat) (Th : Int32) (Ce : Nat → Int64) (Le : Nat → Int32) (De : Int32) (Ke : Int32) (Kc : Nat → Int64) (Ko : Nat → Int32) (Kl : Nat → Int32) (Kd : Nat → Int32) (Ug : Nat → Int64) (Ur : Nat → Int64) (Va : Nat → Int64) (To : Int32) (Tt : Nat → Int32) (Td : Nat → Int32) (Go : Int32) (Gg : Nat → Int32) (Ga : Nat → Int32) (Be : Int32) (Bt : Nat → Int32) (Si : Int32) (Te : Nat → Int32) (Bz : Int32) (Bk : Nat → Int32) : Met l yX6_group (mW yX6_group cX6_group 1 (some .int)) { frames := 0, cells := 0, slots := 0, locals := 0 } (va_Pc [.ref (ad 0)] (fun U => U.heap.size = sz ∧ va_P (dC, dI) vwCl (wM ad cI cJ Th Ce Le De Ke Kc Ko Kl Kd Ug Ur Va To Tt Td Go Gg Ga Be Bt Si Te Bz Bk) U.heap ∧ va_K (dC, dI) vwCl [(cI, .int), (cJ, .long)] U)) (va_Qi (fun (r : Int32) (_ : Unit) => r = (f_X6_group Th De).1) (fun _ t => va_P (dC, dI) vwCl (wM ad cI cJ ((f_X6_group Th De).2.1) Ce Le ((f_X6_group Th De).2.2) Ke Kc Ko Kl Kd Ug Ur Va To Tt Td Go Gg Ga Be Bt Si Te Bz Bk) t.heap) (fA 17 ad sz)) 0 0 (fA 17 ad sz) := by
  refine Met.ofW (cc := cX6_group) (maxL := 1) (ret := (some .int)) (by decide) rfl ?_
  intro p e s m args below meth c s₁ B hml hv
  obtain ⟨rfl, hsz, hP, hK⟩ := hv
  have hx := B.exec
  have hb := B.bytes
  have hr := B.returns
  have hts := mW_hts (atoms_spec (ws := (mW yX6_group cX6_group 1 (some .int))) B.pre)
  have hown : s.vm.findClass RX6 = some m.cls := findClass_of_methodNamed B.named
  have hlocks := B.notSynchronized
  subst hsz
  have hA : ∀ (n : Nat) (q : Nat), s.heap.size ≤ n → n ≤ q → fA 17 ad s.heap.size q := fun n q h1 h2 => Or.inr (Nat.le_trans h1 h2)
  have hS : va_S (fA 17 ad s.heap.size) s.heap s.heap [] := va_S.rf
  have hA : ∀ q, s.heap.size ≤ q → (fA 17 ad s.heap.size) q := fun q h => Or.inr h
  have hl := lv_entry ([.ref (ad 0)]) (n := 1) (Nat.le_of_ble_eq_true rfl)
  rw [lg_entry_eq]
  generalize (lg_sl ([.ref (ad 0)]) ++ List.replicate (1 - (lg_sl ([.ref (ad 0)])).length) Slot.unset).toArray = ls at hl ⊢
  have hl : lv_has ls 1 [(0, .ref (ad 0))] := hl
  refine W_gen (fun Q9 hQ9 => ?_)
  refine lv_aload_n hx hb dX6_group_0 rfl (lv_at hl 0 rfl) ?_
  refine lv_aload_n hx hb dX6_group_1 rfl (lv_at hl 0 rfl) ?_
  refine va_get (D := (dC, dI)) (ci := 8) (v := .int De) (C := RX6) (T := TX6) (N := 24) hx hb hts iW_X6 hown hK hP 0 rfl rfl 3 (by decide) (hts _ mF_RX6_91) (fun _ h9 => h9) rfl dX6_group_2 ?_
  refine lv_bipush (v := 20) hx hb dX6_group_5 (by decide) ?_
  refine lv_icmp_ne (tgt := 14) hx hb dX6_group_7 (by decide) (fun c1 => ?_) (fun c1 => ?_)
  · refine lv_iconst (v := 0) hx hb dX6_group_14 (by decide) ?_
    refine va_put (D := (dC, dI)) (ci := 8) (v := .int (0 : Int32)) (ty := .int) (C := RX6) (T := TX6) (N := 24) hx hb hts iW_X6 tyX6 tyX6_ok nmX6 hown hK hP (fA_D hi rfl) hS 0 rfl rfl 0 (by decide) (hts _ mF_RX6_61) (fun _ h9 => h9) rfl (by decide +kernel) rfl rfl (Nat.le_of_ble_eq_true rfl) dX6_group_15 (fun H locs hP _ hS => ?_)
    have hP : va_P (dC, dI) vwCl (wM ad cI cJ (0 : Int32) Ce Le De Ke Kc Ko Kl Kd Ug Ur Va To Tt Td Go Gg Ga Be Bt Si Te Bz Bk) H := hP
    refine lv_aload_n hx hb dX6_group_18 rfl (lv_at hl 0 rfl) ?_
    refine va_get (D := (dC, dI)) (ci := 8) (v := .int (0 : Int32)) (C := RX6) (T := TX6) (N := 24) hx hb hts iW_X6 hown hK hP 0 rfl rfl 0 (by decide) (hts _ mF_RX6_61) (fun _ h9 => h9) rfl dX6_group_19 ?_
    refine lv_if_le (tgt := 27) hx hb dX6_group_22 (by decide) (fun c2 => ?_) (fun c2 => ?_)
    · refine lv_aload_n hx hb dX6_group_27 rfl (lv_at hl 0 rfl) ?_
      refine lv_dup hx hb dX6_group_28 rfl ?_
      refine va_get (D := (dC, dI)) (ci := 8) (v := .int De) (C := RX6) (T := TX6) (N := 24) hx hb hts iW_X6 hown hK hP 0 rfl rfl 3 (by decide) (hts _ mF_RX6_91) (fun _ h9 => h9) rfl dX6_group_29 ?_
      refine lv_iconst (v := 1) hx hb dX6_group_32 (by decide) ?_
      refine lv_iadd hx hb dX6_group_33 ?_
      refine va_put (D := (dC, dI)) (ci := 8) (v := .int (De + (1 : Int32))) (ty := .int) (C := RX6) (T := TX6) (N := 24) hx hb hts iW_X6 tyX6 tyX6_ok nmX6 hown hK hP (fA_D hi rfl) hS 0 rfl rfl 3 (by decide) (hts _ mF_RX6_91) (fun _ h9 => h9) rfl (by decide +kernel) rfl rfl (Nat.le_of_ble_eq_true rfl) dX6_group_34 (fun H locs hP _ hS => ?_)
      have hP : va_P (dC, dI) vwCl (wM ad cI cJ (0 : Int32) Ce Le (De + (1 : Int32)) Ke Kc Ko Kl Kd Ug Ur Va To Tt Td Go Gg Ga Be Bt Si Te Bz Bk) H := hP
      refine lv_aload_n hx hb dX6_group_37 rfl (lv_at hl 0 rfl) ?_
      refine va_get (D := (dC, dI)) (ci := 8) (v := .int (De + (1 : Int32))) (C := RX6) (T := TX6) (N := 24) hx hb hts iW_X6 hown hK hP 0 rfl rfl 3 (by decide) (hts _ mF_RX6_91) (fun _ h9 => h9) rfl dX6_group_38 ?_
      rw [hQ9]
      have hf : f_X6_group Th De = ((De + (1 : Int32)), (0 : Int32), (De + (1 : Int32))) := by simp only [f_X6_group, if_neg c1]
      exact W.iret (v := (De + (1 : Int32))) hx hb hr (fun t ht hW => ⟨⟨(De + (1 : Int32)), (), rfl, by rw [hf], by rw [hf]; show va_P (dC, dI) vwCl _ t.heap; rw [ht]; exact hP⟩, hS.F ht⟩) hS.2.2 dX6_group_41
    · exact absurd (by decide) c2
  · refine lv_iconst (v := 1) hx hb dX6_group_10 (by decide) ?_
    refine lv_goto (tgt := 15) hx hb dX6_group_11 (by decide) ?_
    refine va_put (D := (dC, dI)) (ci := 8) (v := .int (1 : Int32)) (ty := .int) (C := RX6) (T := TX6) (N := 24) hx hb hts iW_X6 tyX6 tyX6_ok nmX6 hown hK hP (fA_D hi rfl) hS 0 rfl rfl 0 (by decide) (hts _ mF_RX6_61) (fun _ h9 => h9) rfl (by decide +kernel) rfl rfl (Nat.le_of_ble_eq_true rfl) dX6_group_15 (fun H locs hP _ hS => ?_)
    have hP : va_P (dC, dI) vwCl (wM ad cI cJ (1 : Int32) Ce Le De Ke Kc Ko Kl Kd Ug Ur Va To Tt Td Go Gg Ga Be Bt Si Te Bz Bk) H := hP
    refine lv_aload_n hx hb dX6_group_18 rfl (lv_at hl 0 rfl) ?_
    refine va_get (D := (dC, dI)) (ci := 8) (v := .int (1 : Int32)) (C := RX6) (T := TX6) (N := 24) hx hb hts iW_X6 hown hK hP 0 rfl rfl 0 (by decide) (hts _ mF_RX6_61) (fun _ h9 => h9) rfl dX6_group_19 ?_
    refine lv_if_le (tgt := 27) hx hb dX6_group_22 (by decide) (fun c3 => ?_) (fun c3 => ?_)
    · exact absurd c3 (by decide)
    · refine lv_iconst (v := 0) hx hb dX6_group_25 (by decide) ?_
      rw [hQ9]
      have hf : f_X6_group Th De = ((0 : Int32), (1 : Int32), De) := by simp only [f_X6_group, if_pos c1]
      exact W.iret (v := (0 : Int32)) hx hb hr (fun t ht hW => ⟨⟨(0 : Int32), (), rfl, by rw [hf], by rw [hf]; show va_P (dC, dI) vwCl _ t.heap; rw [ht]; exact hP⟩, hS.F ht⟩) hS.2.2 dX6_group_26
theorem q_X6_group {p : Program} {l : Launch} {e : Env} {R : Room} {s : State} {m : MethodId} {args : Array Value} {below : List Frame} {meth : Method} {c : Code} {H : Heap} {locs : List Loc} {cells slots : Nat} {Q : State → Prop} {pc : Nat} {ls : Array Slot} {rest : List Value} {cc : ByteArray} {nL idx : Nat} {own : String} {A0 : Nat → Prop} {dC : Nat → ClassId} {dI : Nat → Nat → Nat} {cI cJ : ClassId} {ad : Nat → Nat} {Th : Int32} {Ce : Nat → Int64} {Le : Nat → Int32} {De : Int32} {Ke : Int32} {Kc : Nat → Int64} {Ko : Nat → Int32} {Kl : Nat → Int32} {Kd : Nat → Int32} {Ug : Nat → Int64} {Ur : Nat → Int64} {Va : Nat → Int64} {To : Int32} {Tt : Nat → Int32} {Td : Nat → Int32} {Go : Int32} {Gg : Nat → Int32} {Ga : Nat → Int32} {Be : Int32} {Bt : Nat → Int32} {Si : Int32} {Te : Nat → Int32} {Bz : Int32} {Bk : Nat → Int32} (hx : p.tables.exec = Jvm.exec) (hb : c.code = cc) (hml : c.maxLocals = nL) (hown : s.vm.findClass own = some m.cls) (hts : ∀ w ∈ bigW, w.before args s = true) (hlk : Cond.methodLink own idx yX6_group ∈ bigW) (hR : 1 ≤ R.frames ∧ 20 ≤ R.locals) (hf : cells + 0 ≤ R.cells ∧ slots + 0 ≤ R.slots) (hz : ls.size = nL) (hw : (rest.map fun v => v.category).sum ≤ 8) (hS : va_S A0 s.heap H locs) (hd : decode cc pc = .ok (.invokevirtual idx, 3)) (hA : ∀ q, fA 17 ad H.size q → A0 q) (hi : fI 17 ad) (hK : va_K (dC, dI) vwCl [(cI, .int), (cJ, .long)] s) (hP : va_P (dC, dI) vwCl (wM ad cI cJ Th Ce Le De Ke Kc Ko Kl Kd Ug Ur Va To Tt Td Go Gg Ga Be Bt Si Te Bz Bk) H)  (u : Int32 × Int32 × Int32) (hu : u = f_X6_group Th De) (k : ∀ (H1 : Heap) (locs1 : List Loc), va_P (dC, dI) vwCl (wM ad cI cJ u.2.1 Ce Le u.2.2 Ke Kc Ko Kl Kd Ug Ur Va To Tt Td Go Gg Ga Be Bt Si Te Bz Bk) H1 → va_S A0 s.heap H1 locs1 → W p l e R s m args below meth c H1 locs1 (cells + 0) (slots + 0) Q (F0 m (pc + 3) ls (.int u.1 :: rest))) : W p l e R s m args below meth c H locs cells slots Q (F0 m pc ls (.ref (ad 0) :: rest)) := by
  subst hu
  exact va_calli (va_runV (As := []) (rest := rest) ⟨hx, hb, hml, hown, hts⟩ (c_X6_group l dC dI cI cJ ad hi H.size Th Ce Le De Ke Kc Ko Kl Kd Ug Ur Va To Tt Td Go Gg Ga Be Bt Si Te Bz Bk) (kV 0 hts hlk mI_X6_group mN_RX6 mY_X6_group mV_X6_group rfl rfl (by decide +kernel) hR) ⟨fun a U g mk q => ⟨q.1, q.2.1, q.2.2.1, va_K.moved (u := U) (U := U.calling g mk a) (Vm.Alike.refl U.vm) q.2.2.2⟩, va_recv hK hP (ci := 8) (q0 := 0) rfl rfl, fun U hU hW => ⟨rfl, by rw [hU], by rw [hU]; exact hP, va_K.moved hW.alike hK⟩⟩ rfl rfl hz rfl (lv_room hw) hd hf) hS (fun q _ h => hA q h) (fun q h => hA q h) (fun r u t H1 locs1 ht hvm hw9 hB hz1 hk1 hS1 => by
    subst hw9
    exact k H1 locs1 (by rw [← ht]; exact hB) hS1)
theorem qf_X6_group {p : Program} {l : Launch} {e : Env} {R : Room} {s : State} {m : MethodId} {args : Array Value} {below : List Frame} {meth : Method} {c : Code} {H : Heap} {locs : List Loc} {cells slots : Nat} {Q : State → Prop} {pc : Nat} {ls : Array Slot} {rest : List Value} {cc : ByteArray} {nL idx : Nat} {own : String} {A0 : Nat → Prop} {dC : Nat → ClassId} {dI : Nat → Nat → Nat} {cI cJ : ClassId} {ad : Nat → Nat} {Th : Int32} {Ce : Nat → Int64} {Le : Nat → Int32} {De : Int32} {Ke : Int32} {Kc : Nat → Int64} {Ko : Nat → Int32} {Kl : Nat → Int32} {Kd : Nat → Int32} {Ug : Nat → Int64} {Ur : Nat → Int64} {Va : Nat → Int64} {To : Int32} {Tt : Nat → Int32} {Td : Nat → Int32} {Go : Int32} {Gg : Nat → Int32} {Ga : Nat → Int32} {Be : Int32} {Bt : Nat → Int32} {Si : Int32} {Te : Nat → Int32} {Bz : Int32} {Bk : Nat → Int32} (hx : p.tables.exec = Jvm.exec) (hb : c.code = cc) (hml : c.maxLocals = nL) (hown : s.vm.findClass own = some m.cls) (hts : ∀ w ∈ bigW, w.before args s = true) (hlk : Cond.methodLink own idx yX6_group ∈ bigW) (hR : 1 ≤ R.frames ∧ 20 ≤ R.locals) (hf : cells + 0 ≤ R.cells ∧ slots + 0 ≤ R.slots) (hz : ls.size = nL) (hw : (rest.map fun v => v.category).sum ≤ 8) (hS : va_S A0 s.heap H locs) (hd : decode cc pc = .ok (.invokevirtual idx, 3)) (hA : ∀ q, fA 17 ad H.size q → A0 q) (hi : fI 17 ad) (hK : va_K (dC, dI) vwCl [(cI, .int), (cJ, .long)] s) (hP : va_P (dC, dI) vwCl (wM ad cI cJ Th Ce Le De Ke Kc Ko Kl Kd Ug Ur Va To Tt Td Go Gg Ga Be Bt Si Te Bz Bk) H)  (u : Int32 × Int32 × Int32) (hu : u = f_X6_group Th De) (k : ∀ (H1 : Heap) (locs1 : List Loc), va_P (dC, dI) vwCl (wM ad cI cJ u.2.1 Ce Le u.2.2 Ke Kc Ko Kl Kd Ug Ur Va To Tt Td Go Gg Ga Be Bt Si Te Bz Bk) H1 → va_S A0 s.heap H1 locs1 → (∀ q : Nat, q < H.size → ¬ fA 17 ad H.size q → H1[q]? = H[q]?) → H.size ≤ H1.size → W p l e R s m args below meth c H1 locs1 (cells + 0) (slots + 0) Q (F0 m (pc + 3) ls (.int u.1 :: rest))) : W p l e R s m args below meth c H locs cells slots Q (F0 m pc ls (.ref (ad 0) :: rest)) := by
  subst hu
  exact va_calli (va_runV (As := []) (rest := rest) ⟨hx, hb, hml, hown, hts⟩ (c_X6_group l dC dI cI cJ ad hi H.size Th Ce Le De Ke Kc Ko Kl Kd Ug Ur Va To Tt Td Go Gg Ga Be Bt Si Te Bz Bk) (kV 0 hts hlk mI_X6_group mN_RX6 mY_X6_group mV_X6_group rfl rfl (by decide +kernel) hR) ⟨fun a U g mk q => ⟨q.1, q.2.1, q.2.2.1, va_K.moved (u := U) (U := U.calling g mk a) (Vm.Alike.refl U.vm) q.2.2.2⟩, va_recv hK hP (ci := 8) (q0 := 0) rfl rfl, fun U hU hW => ⟨rfl, by rw [hU], by rw [hU]; exact hP, va_K.moved hW.alike hK⟩⟩ rfl rfl hz rfl (lv_room hw) hd hf) hS (fun q _ h => hA q h) (fun q h => hA q h) (fun r u t H1 locs1 ht hvm hw9 hB hz1 hk1 hS1 => by
    subst hw9
    exact k H1 locs1 (by rw [← ht]; exact hB) hS1 hk1 hz1)

def L_X6_after_91 : Nat → Int32 → Int32 → Int32 → Int32 → (Nat → Int32) → Int32 × Int32
  | 0, x2, x3, De, To, Td => (x2, x3)
  | n + 1, x2, x3, De, To, Td => (if To ≤ x3 then (x2, x3) else (if (Td x3.toNatClampNeg) = De then L_X6_after_91 n (x2 + (1 : Int32)) (x3 + 1) De To Td else L_X6_after_91 n x2 (x3 + 1) De To Td))
def SL_X6_after_91 : Nat → Int32 → Int32 → Int32 → Int32 → (Nat → Int32) → Prop
  | 0, _, _, _, _, _ => False
  | n + 1, x2, x3, De, To, Td => (To ≤ x3 → (True)) ∧ (¬ To ≤ x3 → ((vp_in x3 60) ∧ (((Td x3.toNatClampNeg) = De → (SL_X6_after_91 n (x2 + (1 : Int32)) (x3 + 1) De To Td)) ∧ (¬ (Td x3.toNatClampNeg) = De → (SL_X6_after_91 n x2 (x3 + 1) De To Td)))))
def f_X6_after (a0 : Int32) (Th : Int32) (De : Int32) (To : Int32) (Tt : Nat → Int32) (Td : Nat → Int32) : Int32 × Int32 × Int32 × (Nat → Int32) × (Nat → Int32) := (if (f_X6_in a0.toInt64 (0 : Int64) (255 : Int64)) = 0 then ((0 : Int32), (1 : Int32), To, Tt, Td) else (if De = 0 then ((0 : Int32), (2 : Int32), To, Tt, Td) else (if To = (60 : Int32) then ((0 : Int32), (3 : Int32), To, Tt, Td) else (let u7 := L_X6_after_91 61 (0 : Int32) (0 : Int32) De (To + (1 : Int32)) (upd Td To.toNatClampNeg De); (u7.1, (0 : Int32), (To + (1 : Int32)), (upd Tt To.toNatClampNeg a0), (upd Td To.toNatClampNeg De))))))
def S_X6_after (a0 : Int32) (Th : Int32) (De : Int32) (To : Int32) (Tt : Nat → Int32) (Td : Nat → Int32) : Prop := ((f_X6_in a0.toInt64 (0 : Int64) (255 : Int64)) = 0 → (True)) ∧ (¬ (f_X6_in a0.toInt64 (0 : Int64) (255 : Int64)) = 0 → ((De = 0 → (True)) ∧ (¬ De = 0 → ((To = (60 : Int32) → (True)) ∧ (¬ To = (60 : Int32) → ((vp_in To 60) ∧ ((vp_in To 60) ∧ ((SL_X6_after_91 61 (0 : Int32) (0 : Int32) De (To + (1 : Int32)) (upd Td To.toNatClampNeg De)) ∧ (∀ u7, u7 = L_X6_after_91 61 (0 : Int32) (0 : Int32) De (To + (1 : Int32)) (upd Td To.toNatClampNeg De) → (True))))))))))
set_option maxHeartbeats 4000000 in
set_option maxRecDepth 100000 in
theorem c_X6_after (l : Launch) (dC : Nat → ClassId) (dI : Nat → Nat → Nat) (cI cJ : ClassId) (ad : Nat → Nat) (hi : fI 17 ad) (sz : Nat) (Th : Int32) (Ce : Nat → Int64) (Le : Nat → Int32) (De : Int32) (Ke : Int32) (Kc : Nat → Int64) (Ko : Nat → Int32) (Kl : Nat → Int32) (Kd : Nat → Int32) (Ug : Nat → Int64) (Ur : Nat → Int64) (Va : Nat → Int64) (To : Int32) (Tt : Nat → Int32) (Td : Nat → Int32) (Go : Int32) (Gg : Nat → Int32) (Ga : Nat → Int32) (Be : Int32) (Bt : Nat → Int32) (Si : Int32) (Te : Nat → Int32) (Bz : Int32) (Bk : Nat → Int32) (a0 : Int32) (hs : S_X6_after a0 Th De To Tt Td) : Met l yX6_after (mW yX6_after cX6_after 4 (some .int)) { frames := 1, cells := 0, slots := 0, locals := 25 } (va_Pc [.ref (ad 0), .int a0] (fun U => U.heap.size = sz ∧ va_P (dC, dI) vwCl (wM ad cI cJ Th Ce Le De Ke Kc Ko Kl Kd Ug Ur Va To Tt Td Go Gg Ga Be Bt Si Te Bz Bk) U.heap ∧ va_K (dC, dI) vwCl [(cI, .int), (cJ, .long)] U)) (va_Qi (fun (r : Int32) (_ : Unit) => r = (f_X6_after a0 Th De To Tt Td).1) (fun _ t => va_P (dC, dI) vwCl (wM ad cI cJ ((f_X6_after a0 Th De To Tt Td).2.1) Ce Le De Ke Kc Ko Kl Kd Ug Ur Va ((f_X6_after a0 Th De To Tt Td).2.2.1) ((f_X6_after a0 Th De To Tt Td).2.2.2.1) ((f_X6_after a0 Th De To Tt Td).2.2.2.2) Go Gg Ga Be Bt Si Te Bz Bk) t.heap) (fA 17 ad sz)) 0 0 (fA 17 ad sz) := by
  refine Met.ofW (cc := cX6_after) (maxL := 4) (ret := (some .int)) (by decide) rfl ?_
  intro p e s m args below meth c s₁ B hml hv
  obtain ⟨rfl, hsz, hP, hK⟩ := hv
  have hx := B.exec
  have hb := B.bytes
  have hr := B.returns
  have hts := mW_hts (atoms_spec (ws := (mW yX6_after cX6_after 4 (some .int))) B.pre)
  have hown : s.vm.findClass RX6 = some m.cls := findClass_of_methodNamed B.named
  have hlocks := B.notSynchronized
  subst hsz
  have hA : ∀ (n : Nat) (q : Nat), s.heap.size ≤ n → n ≤ q → fA 17 ad s.heap.size q := fun n q h1 h2 => Or.inr (Nat.le_trans h1 h2)
  have hS : va_S (fA 17 ad s.heap.size) s.heap s.heap [] := va_S.rf
  have hA : ∀ q, s.heap.size ≤ q → (fA 17 ad s.heap.size) q := fun q h => Or.inr h
  unfold S_X6_after at hs
  have hl := lv_entry ([.ref (ad 0), .int a0]) (n := 4) (Nat.le_of_ble_eq_true rfl)
  rw [lg_entry_eq]
  generalize (lg_sl ([.ref (ad 0), .int a0]) ++ List.replicate (4 - (lg_sl ([.ref (ad 0), .int a0])).length) Slot.unset).toArray = ls at hl ⊢
  have hl : lv_has ls 4 [(0, .ref (ad 0)), (1, .int a0)] := hl
  refine W_gen (fun Q9 hQ9 => ?_)
  refine lv_aload_n hx hb dX6_after_0 rfl (lv_at hl 0 rfl) ?_
  refine lv_iload_n hx hb dX6_after_1 rfl (lv_at hl 1 rfl) ?_
  refine lv_i2l hx hb dX6_after_2 rfl ?_
  refine lv_lconst (v := 0) hx hb dX6_after_3 (by decide) ?_
  refine lv_ldc2 hx hb hown (hts _ mK_RX6_77) dX6_after_4 ?_
  refine q_X6_in hx hb hml hown hts mM_RX6_67 ⟨Nat.le_of_ble_eq_true rfl, Nat.le_of_ble_eq_true rfl⟩ ⟨Nat.le_of_ble_eq_true rfl, Nat.le_of_ble_eq_true rfl⟩ hl.1 (Nat.le_of_ble_eq_true rfl) hS dX6_after_7 hA a0.toInt64 (0 : Int64) (255 : Int64) (fun locs hS => ?_)
  refine lv_if_ne (tgt := 17) hx hb dX6_after_10 (by decide) (fun c1 => ?_) (fun c1 => ?_)
  · have hs := hs.2 c1
    refine lv_aload_n hx hb dX6_after_17 rfl (lv_at hl 0 rfl) ?_
    refine va_get (D := (dC, dI)) (ci := 8) (v := .int De) (C := RX6) (T := TX6) (N := 24) hx hb hts iW_X6 hown hK hP 0 rfl rfl 3 (by decide) (hts _ mF_RX6_91) (fun _ h9 => h9) rfl dX6_after_18 ?_
    refine lv_if_ne (tgt := 28) hx hb dX6_after_21 (by decide) (fun c2 => ?_) (fun c2 => ?_)
    · have hs := hs.2 c2
      refine lv_aload_n hx hb dX6_after_28 rfl (lv_at hl 0 rfl) ?_
      refine va_get (D := (dC, dI)) (ci := 8) (v := .int To) (C := RX6) (T := TX6) (N := 24) hx hb hts iW_X6 hown hK hP 0 rfl rfl 12 (by decide) (hts _ mF_RX6_138) (fun _ h9 => h9) rfl dX6_after_29 ?_
      refine lv_bipush (v := 60) hx hb dX6_after_32 (by decide) ?_
      refine lv_icmp_ne (tgt := 41) hx hb dX6_after_34 (by decide) (fun c3 => ?_) (fun c3 => ?_)
      · have hs := hs.2 c3
        refine lv_iconst (v := 0) hx hb dX6_after_41 (by decide) ?_
        refine va_put (D := (dC, dI)) (ci := 8) (v := .int (0 : Int32)) (ty := .int) (C := RX6) (T := TX6) (N := 24) hx hb hts iW_X6 tyX6 tyX6_ok nmX6 hown hK hP (fA_D hi rfl) hS 0 rfl rfl 0 (by decide) (hts _ mF_RX6_61) (fun _ h9 => h9) rfl (by decide +kernel) rfl rfl (Nat.le_of_ble_eq_true rfl) dX6_after_42 (fun H locs hP _ hS => ?_)
        have hP : va_P (dC, dI) vwCl (wM ad cI cJ (0 : Int32) Ce Le De Ke Kc Ko Kl Kd Ug Ur Va To Tt Td Go Gg Ga Be Bt Si Te Bz Bk) H := hP
        refine lv_aload_n hx hb dX6_after_45 rfl (lv_at hl 0 rfl) ?_
        refine va_get (D := (dC, dI)) (ci := 8) (v := .int (0 : Int32)) (C := RX6) (T := TX6) (N := 24) hx hb hts iW_X6 hown hK hP 0 rfl rfl 0 (by decide) (hts _ mF_RX6_61) (fun _ h9 => h9) rfl dX6_after_46 ?_
        refine lv_if_le (tgt := 54) hx hb dX6_after_49 (by decide) (fun c4 => ?_) (fun c4 => ?_)
        · refine lv_aload_n hx hb dX6_after_54 rfl (lv_at hl 0 rfl) ?_
          refine va_get (D := (dC, dI)) (ci := 8) (v := .ref (ad 10)) (C := RX6) (T := TX6) (N := 24) hx hb hts iW_X6 hown hK hP 0 rfl rfl 13 (by decide) (hts _ mF_RX6_38) (fun _ h9 => h9) rfl dX6_after_55 ?_
          refine lv_aload_n hx hb dX6_after_58 rfl (lv_at hl 0 rfl) ?_
          refine va_get (D := (dC, dI)) (ci := 8) (v := .int To) (C := RX6) (T := TX6) (N := 24) hx hb hts iW_X6 hown hK hP 0 rfl rfl 12 (by decide) (hts _ mF_RX6_138) (fun _ h9 => h9) rfl dX6_after_59 ?_
          refine lv_iload_n hx hb dX6_after_62 rfl (lv_at hl 1 rfl) ?_
          obtain ⟨h5, hs⟩ := hs
          refine va_iast hx hb hK hP (fA_D hi rfl) hS 10 0 rfl rfl h5 dX6_after_63 (fun H locs hP _ hS => ?_)
          have hP : va_P (dC, dI) vwCl (wM ad cI cJ (0 : Int32) Ce Le De Ke Kc Ko Kl Kd Ug Ur Va To (upd Tt To.toNatClampNeg a0) Td Go Gg Ga Be Bt Si Te Bz Bk) H := hP
          refine lv_aload_n hx hb dX6_after_64 rfl (lv_at hl 0 rfl) ?_
          refine va_get (D := (dC, dI)) (ci := 8) (v := .ref (ad 11)) (C := RX6) (T := TX6) (N := 24) hx hb hts iW_X6 hown hK hP 0 rfl rfl 14 (by decide) (hts _ mF_RX6_41) (fun _ h9 => h9) rfl dX6_after_65 ?_
          refine lv_aload_n hx hb dX6_after_68 rfl (lv_at hl 0 rfl) ?_
          refine va_get (D := (dC, dI)) (ci := 8) (v := .int To) (C := RX6) (T := TX6) (N := 24) hx hb hts iW_X6 hown hK hP 0 rfl rfl 12 (by decide) (hts _ mF_RX6_138) (fun _ h9 => h9) rfl dX6_after_69 ?_
          refine lv_aload_n hx hb dX6_after_72 rfl (lv_at hl 0 rfl) ?_
          refine va_get (D := (dC, dI)) (ci := 8) (v := .int De) (C := RX6) (T := TX6) (N := 24) hx hb hts iW_X6 hown hK hP 0 rfl rfl 3 (by decide) (hts _ mF_RX6_91) (fun _ h9 => h9) rfl dX6_after_73 ?_
          obtain ⟨h6, hs⟩ := hs
          refine va_iast hx hb hK hP (fA_D hi rfl) hS 11 0 rfl rfl h6 dX6_after_76 (fun H locs hP _ hS => ?_)
          have hP : va_P (dC, dI) vwCl (wM ad cI cJ (0 : Int32) Ce Le De Ke Kc Ko Kl Kd Ug Ur Va To (upd Tt To.toNatClampNeg a0) (upd Td To.toNatClampNeg De) Go Gg Ga Be Bt Si Te Bz Bk) H := hP
          refine lv_aload_n hx hb dX6_after_77 rfl (lv_at hl 0 rfl) ?_
          refine lv_dup hx hb dX6_after_78 rfl ?_
          refine va_get (D := (dC, dI)) (ci := 8) (v := .int To) (C := RX6) (T := TX6) (N := 24) hx hb hts iW_X6 hown hK hP 0 rfl rfl 12 (by decide) (hts _ mF_RX6_138) (fun _ h9 => h9) rfl dX6_after_79 ?_
          refine lv_iconst (v := 1) hx hb dX6_after_82 (by decide) ?_
          refine lv_iadd hx hb dX6_after_83 ?_
          refine va_put (D := (dC, dI)) (ci := 8) (v := .int (To + (1 : Int32))) (ty := .int) (C := RX6) (T := TX6) (N := 24) hx hb hts iW_X6 tyX6 tyX6_ok nmX6 hown hK hP (fA_D hi rfl) hS 0 rfl rfl 12 (by decide) (hts _ mF_RX6_138) (fun _ h9 => h9) rfl (by decide +kernel) rfl rfl (Nat.le_of_ble_eq_true rfl) dX6_after_84 (fun H locs hP _ hS => ?_)
          have hP : va_P (dC, dI) vwCl (wM ad cI cJ (0 : Int32) Ce Le De Ke Kc Ko Kl Kd Ug Ur Va (To + (1 : Int32)) (upd Tt To.toNatClampNeg a0) (upd Td To.toNatClampNeg De) Go Gg Ga Be Bt Si Te Bz Bk) H := hP
          refine lv_iconst (v := 0) hx hb dX6_after_87 (by decide) ?_
          refine lv_istore_n (lv' := [(2, .int (0 : Int32)), (0, .ref (ad 0)), (1, .int a0)]) hx hb dX6_after_88 rfl hl (by decide) rfl (fun ls hl => ?_)
          refine lv_iconst (v := 0) hx hb dX6_after_89 (by decide) ?_
          refine lv_istore_n (lv' := [(3, .int (0 : Int32)), (2, .int (0 : Int32)), (0, .ref (ad 0)), (1, .int a0)]) hx hb dX6_after_90 rfl hl (by decide) rfl (fun ls hl => ?_)
          obtain ⟨h8, hs⟩ := hs
          obtain ⟨u7, hu7⟩ : ∃ z, z = L_X6_after_91 61 (0 : Int32) (0 : Int32) De (To + (1 : Int32)) (upd Td To.toNatClampNeg De) := ⟨_, rfl⟩
          have hs := hs u7 hu7
          have hex9 : ∀ (H : Heap) (locs : List Loc) (ls : Array Slot), va_P (dC, dI) vwCl (wM ad cI cJ (0 : Int32) Ce Le De Ke Kc Ko Kl Kd Ug Ur Va (To + (1 : Int32)) (upd Tt To.toNatClampNeg a0) (upd Td To.toNatClampNeg De) Go Gg Ga Be Bt Si Te Bz Bk) H → va_S (fA 17 ad s.heap.size) s.heap H locs → lv_has ls 4 [(2, .int u7.1), (3, .int u7.2), (0, .ref (ad 0)), (1, .int a0)] → W p l e (headSpec (mW yX6_after cX6_after 4 (some .int)) { frames := 1, cells := 0, slots := 0, locals := 25 }).room s m ([.ref (ad 0), .int a0] : List Value).toArray below meth c H locs 0 0 Q9 (F0 m 126 ls []) := by
            intro H locs ls hP hS hl
            refine lv_iload_n hx hb dX6_after_126 rfl (lv_at hl 0 rfl) ?_
            rw [hQ9]
            have hf : f_X6_after a0 Th De To Tt Td = (u7.1, (0 : Int32), (To + (1 : Int32)), (upd Tt To.toNatClampNeg a0), (upd Td To.toNatClampNeg De)) := by simp only [f_X6_after, if_neg c1, if_neg c2, if_neg c3, ← hu7]
            exact W.iret (v := u7.1) hx hb hr (fun t ht hW => ⟨⟨u7.1, (), rfl, by rw [hf], by rw [hf]; show va_P (dC, dI) vwCl _ t.heap; rw [ht]; exact hP⟩, hS.F ht⟩) hS.2.2 dX6_after_127
          have hlp10 : ∀ (n : Nat) (x2v : Int32) (x3v : Int32) (H : Heap) (locs : List Loc) (ls : Array Slot), SL_X6_after_91 n x2v x3v De (To + (1 : Int32)) (upd Td To.toNatClampNeg De) → u7 = L_X6_after_91 n x2v x3v De (To + (1 : Int32)) (upd Td To.toNatClampNeg De) → va_P (dC, dI) vwCl (wM ad cI cJ (0 : Int32) Ce Le De Ke Kc Ko Kl Kd Ug Ur Va (To + (1 : Int32)) (upd Tt To.toNatClampNeg a0) (upd Td To.toNatClampNeg De) Go Gg Ga Be Bt Si Te Bz Bk) H → va_S (fA 17 ad s.heap.size) s.heap H locs → lv_has ls 4 [(2, .int x2v), (3, .int x3v), (0, .ref (ad 0)), (1, .int a0)] → W p l e (headSpec (mW yX6_after cX6_after 4 (some .int)) { frames := 1, cells := 0, slots := 0, locals := 25 }).room s m ([.ref (ad 0), .int a0] : List Value).toArray below meth c H locs 0 0 Q9 (F0 m 91 ls []) := by
            intro n
            induction n with
            | zero => intro x2v x3v H locs ls hs; rw [SL_X6_after_91] at hs; exact hs.elim
            | succ n ih =>
              intro x2v x3v H locs ls hs hq11 hP hS hl
              rw [SL_X6_after_91] at hs
              refine lv_iload_n hx hb dX6_after_91 rfl (lv_at hl 1 rfl) ?_
              refine lv_aload_n hx hb dX6_after_92 rfl (lv_at hl 2 rfl) ?_
              refine va_get (D := (dC, dI)) (ci := 8) (v := .int (To + (1 : Int32))) (C := RX6) (T := TX6) (N := 24) hx hb hts iW_X6 hown hK hP 0 rfl rfl 12 (by decide) (hts _ mF_RX6_138) (fun _ h9 => h9) rfl dX6_after_93 ?_
              refine lv_icmp_ge (tgt := 126) hx hb dX6_after_96 (by decide) (fun c12 => ?_) (fun c12 => ?_)
              · have hs := hs.1 c12
                have he13 : u7 = (x2v, x3v) := by rw [hq11, L_X6_after_91]; simp only [if_pos c12, ↓reduceIte]
                exact hex9 _ _ _ (by first | exact hP | (rw [he13]; exact hP)) hS (by first | exact lv_sub hl [0, 1, 2, 3] rfl | (rw [he13]; exact lv_sub hl [0, 1, 2, 3] rfl))
              · have hs := hs.2 c12
                refine lv_aload_n hx hb dX6_after_99 rfl (lv_at hl 2 rfl) ?_
                refine va_get (D := (dC, dI)) (ci := 8) (v := .ref (ad 11)) (C := RX6) (T := TX6) (N := 24) hx hb hts iW_X6 hown hK hP 0 rfl rfl 14 (by decide) (hts _ mF_RX6_41) (fun _ h9 => h9) rfl dX6_after_100 ?_
                refine lv_iload_n hx hb dX6_after_103 rfl (lv_at hl 1 rfl) ?_
                obtain ⟨h14, hs⟩ := hs
                refine va_iald hx hb hK hP 11 0 rfl rfl h14 dX6_after_104 ?_
                refine lv_aload_n hx hb dX6_after_105 rfl (lv_at hl 2 rfl) ?_
                refine va_get (D := (dC, dI)) (ci := 8) (v := .int De) (C := RX6) (T := TX6) (N := 24) hx hb hts iW_X6 hown hK hP 0 rfl rfl 3 (by decide) (hts _ mF_RX6_91) (fun _ h9 => h9) rfl dX6_after_106 ?_
                refine lv_icmp_ne (tgt := 118) hx hb dX6_after_109 (by decide) (fun c15 => ?_) (fun c15 => ?_)
                · have hs := hs.2 c15
                  refine lv_iload_n hx hb dX6_after_118 rfl (lv_at hl 0 rfl) ?_
                  refine lv_istore_n (lv' := [(2, .int x2v), (3, .int x3v), (0, .ref (ad 0)), (1, .int a0)]) hx hb dX6_after_119 rfl hl (by decide) rfl (fun ls hl => ?_)
                  refine lv_iinc (v := (x3v + 1)) (lv' := [(3, .int (x3v + 1)), (2, .int x2v), (0, .ref (ad 0)), (1, .int a0)]) hx hb dX6_after_120 hl (k := 1) rfl rfl (by decide) rfl (fun ls hl => ?_)
                  refine lv_goto (tgt := 91) hx hb dX6_after_123 (by decide) ?_
                  exact ih x2v (x3v + 1) _ _ _ hs (by rw [hq11, L_X6_after_91]; simp only [if_neg c12, if_neg c15, ↓reduceIte]) hP hS (lv_sub hl [1, 0, 2, 3] rfl)
                · have hs := hs.1 c15
                  refine lv_iload_n hx hb dX6_after_112 rfl (lv_at hl 0 rfl) ?_
                  refine lv_iconst (v := 1) hx hb dX6_after_113 (by decide) ?_
                  refine lv_iadd hx hb dX6_after_114 ?_
                  refine lv_goto (tgt := 119) hx hb dX6_after_115 (by decide) ?_
                  refine lv_istore_n (lv' := [(2, .int (x2v + (1 : Int32))), (3, .int x3v), (0, .ref (ad 0)), (1, .int a0)]) hx hb dX6_after_119 rfl hl (by decide) rfl (fun ls hl => ?_)
                  refine lv_iinc (v := (x3v + 1)) (lv' := [(3, .int (x3v + 1)), (2, .int (x2v + (1 : Int32))), (0, .ref (ad 0)), (1, .int a0)]) hx hb dX6_after_120 hl (k := 1) rfl rfl (by decide) rfl (fun ls hl => ?_)
                  refine lv_goto (tgt := 91) hx hb dX6_after_123 (by decide) ?_
                  exact ih (x2v + (1 : Int32)) (x3v + 1) _ _ _ hs (by rw [hq11, L_X6_after_91]; simp only [if_neg c12, if_pos c15, ↓reduceIte]) hP hS (lv_sub hl [1, 0, 2, 3] rfl)
          exact hlp10 61 (0 : Int32) (0 : Int32) _ _ _ h8 hu7 hP hS (lv_sub hl [1, 0, 2, 3] rfl)
        · exact absurd (by decide) c4
      · have hs := hs.1 c3
        refine lv_iconst (v := 3) hx hb dX6_after_37 (by decide) ?_
        refine lv_goto (tgt := 42) hx hb dX6_after_38 (by decide) ?_
        refine va_put (D := (dC, dI)) (ci := 8) (v := .int (3 : Int32)) (ty := .int) (C := RX6) (T := TX6) (N := 24) hx hb hts iW_X6 tyX6 tyX6_ok nmX6 hown hK hP (fA_D hi rfl) hS 0 rfl rfl 0 (by decide) (hts _ mF_RX6_61) (fun _ h9 => h9) rfl (by decide +kernel) rfl rfl (Nat.le_of_ble_eq_true rfl) dX6_after_42 (fun H locs hP _ hS => ?_)
        have hP : va_P (dC, dI) vwCl (wM ad cI cJ (3 : Int32) Ce Le De Ke Kc Ko Kl Kd Ug Ur Va To Tt Td Go Gg Ga Be Bt Si Te Bz Bk) H := hP
        refine lv_aload_n hx hb dX6_after_45 rfl (lv_at hl 0 rfl) ?_
        refine va_get (D := (dC, dI)) (ci := 8) (v := .int (3 : Int32)) (C := RX6) (T := TX6) (N := 24) hx hb hts iW_X6 hown hK hP 0 rfl rfl 0 (by decide) (hts _ mF_RX6_61) (fun _ h9 => h9) rfl dX6_after_46 ?_
        refine lv_if_le (tgt := 54) hx hb dX6_after_49 (by decide) (fun c16 => ?_) (fun c16 => ?_)
        · exact absurd c16 (by decide)
        · refine lv_iconst (v := 0) hx hb dX6_after_52 (by decide) ?_
          rw [hQ9]
          have hf : f_X6_after a0 Th De To Tt Td = ((0 : Int32), (3 : Int32), To, Tt, Td) := by simp only [f_X6_after, if_neg c1, if_neg c2, if_pos c3]
          exact W.iret (v := (0 : Int32)) hx hb hr (fun t ht hW => ⟨⟨(0 : Int32), (), rfl, by rw [hf], by rw [hf]; show va_P (dC, dI) vwCl _ t.heap; rw [ht]; exact hP⟩, hS.F ht⟩) hS.2.2 dX6_after_53
    · have hs := hs.1 c2
      refine lv_iconst (v := 2) hx hb dX6_after_24 (by decide) ?_
      refine lv_goto (tgt := 42) hx hb dX6_after_25 (by decide) ?_
      refine va_put (D := (dC, dI)) (ci := 8) (v := .int (2 : Int32)) (ty := .int) (C := RX6) (T := TX6) (N := 24) hx hb hts iW_X6 tyX6 tyX6_ok nmX6 hown hK hP (fA_D hi rfl) hS 0 rfl rfl 0 (by decide) (hts _ mF_RX6_61) (fun _ h9 => h9) rfl (by decide +kernel) rfl rfl (Nat.le_of_ble_eq_true rfl) dX6_after_42 (fun H locs hP _ hS => ?_)
      have hP : va_P (dC, dI) vwCl (wM ad cI cJ (2 : Int32) Ce Le De Ke Kc Ko Kl Kd Ug Ur Va To Tt Td Go Gg Ga Be Bt Si Te Bz Bk) H := hP
      refine lv_aload_n hx hb dX6_after_45 rfl (lv_at hl 0 rfl) ?_
      refine va_get (D := (dC, dI)) (ci := 8) (v := .int (2 : Int32)) (C := RX6) (T := TX6) (N := 24) hx hb hts iW_X6 hown hK hP 0 rfl rfl 0 (by decide) (hts _ mF_RX6_61) (fun _ h9 => h9) rfl dX6_after_46 ?_
      refine lv_if_le (tgt := 54) hx hb dX6_after_49 (by decide) (fun c17 => ?_) (fun c17 => ?_)
      · exact absurd c17 (by decide)
      · refine lv_iconst (v := 0) hx hb dX6_after_52 (by decide) ?_
        rw [hQ9]
        have hf : f_X6_after a0 Th De To Tt Td = ((0 : Int32), (2 : Int32), To, Tt, Td) := by simp only [f_X6_after, if_neg c1, if_pos c2]
        exact W.iret (v := (0 : Int32)) hx hb hr (fun t ht hW => ⟨⟨(0 : Int32), (), rfl, by rw [hf], by rw [hf]; show va_P (dC, dI) vwCl _ t.heap; rw [ht]; exact hP⟩, hS.F ht⟩) hS.2.2 dX6_after_53
  · have hs := hs.1 c1
    refine lv_iconst (v := 1) hx hb dX6_after_13 (by decide) ?_
    refine lv_goto (tgt := 42) hx hb dX6_after_14 (by decide) ?_
    refine va_put (D := (dC, dI)) (ci := 8) (v := .int (1 : Int32)) (ty := .int) (C := RX6) (T := TX6) (N := 24) hx hb hts iW_X6 tyX6 tyX6_ok nmX6 hown hK hP (fA_D hi rfl) hS 0 rfl rfl 0 (by decide) (hts _ mF_RX6_61) (fun _ h9 => h9) rfl (by decide +kernel) rfl rfl (Nat.le_of_ble_eq_true rfl) dX6_after_42 (fun H locs hP _ hS => ?_)
    have hP : va_P (dC, dI) vwCl (wM ad cI cJ (1 : Int32) Ce Le De Ke Kc Ko Kl Kd Ug Ur Va To Tt Td Go Gg Ga Be Bt Si Te Bz Bk) H := hP
    refine lv_aload_n hx hb dX6_after_45 rfl (lv_at hl 0 rfl) ?_
    refine va_get (D := (dC, dI)) (ci := 8) (v := .int (1 : Int32)) (C := RX6) (T := TX6) (N := 24) hx hb hts iW_X6 hown hK hP 0 rfl rfl 0 (by decide) (hts _ mF_RX6_61) (fun _ h9 => h9) rfl dX6_after_46 ?_
    refine lv_if_le (tgt := 54) hx hb dX6_after_49 (by decide) (fun c18 => ?_) (fun c18 => ?_)
    · exact absurd c18 (by decide)
    · refine lv_iconst (v := 0) hx hb dX6_after_52 (by decide) ?_
      rw [hQ9]
      have hf : f_X6_after a0 Th De To Tt Td = ((0 : Int32), (1 : Int32), To, Tt, Td) := by simp only [f_X6_after, if_pos c1]
      exact W.iret (v := (0 : Int32)) hx hb hr (fun t ht hW => ⟨⟨(0 : Int32), (), rfl, by rw [hf], by rw [hf]; show va_P (dC, dI) vwCl _ t.heap; rw [ht]; exact hP⟩, hS.F ht⟩) hS.2.2 dX6_after_53
theorem q_X6_after {p : Program} {l : Launch} {e : Env} {R : Room} {s : State} {m : MethodId} {args : Array Value} {below : List Frame} {meth : Method} {c : Code} {H : Heap} {locs : List Loc} {cells slots : Nat} {Q : State → Prop} {pc : Nat} {ls : Array Slot} {rest : List Value} {cc : ByteArray} {nL idx : Nat} {own : String} {A0 : Nat → Prop} {dC : Nat → ClassId} {dI : Nat → Nat → Nat} {cI cJ : ClassId} {ad : Nat → Nat} {Th : Int32} {Ce : Nat → Int64} {Le : Nat → Int32} {De : Int32} {Ke : Int32} {Kc : Nat → Int64} {Ko : Nat → Int32} {Kl : Nat → Int32} {Kd : Nat → Int32} {Ug : Nat → Int64} {Ur : Nat → Int64} {Va : Nat → Int64} {To : Int32} {Tt : Nat → Int32} {Td : Nat → Int32} {Go : Int32} {Gg : Nat → Int32} {Ga : Nat → Int32} {Be : Int32} {Bt : Nat → Int32} {Si : Int32} {Te : Nat → Int32} {Bz : Int32} {Bk : Nat → Int32} (hx : p.tables.exec = Jvm.exec) (hb : c.code = cc) (hml : c.maxLocals = nL) (hown : s.vm.findClass own = some m.cls) (hts : ∀ w ∈ bigW, w.before args s = true) (hlk : Cond.methodLink own idx yX6_after ∈ bigW) (hR : 2 ≤ R.frames ∧ 48 ≤ R.locals) (hf : cells + 0 ≤ R.cells ∧ slots + 0 ≤ R.slots) (hz : ls.size = nL) (hw : (rest.map fun v => v.category).sum ≤ 8) (hS : va_S A0 s.heap H locs) (hd : decode cc pc = .ok (.invokevirtual idx, 3)) (hA : ∀ q, fA 17 ad H.size q → A0 q) (hi : fI 17 ad) (hK : va_K (dC, dI) vwCl [(cI, .int), (cJ, .long)] s) (hP : va_P (dC, dI) vwCl (wM ad cI cJ Th Ce Le De Ke Kc Ko Kl Kd Ug Ur Va To Tt Td Go Gg Ga Be Bt Si Te Bz Bk) H) (a0 : Int32) (hs : S_X6_after a0 Th De To Tt Td)  (u : Int32 × Int32 × Int32 × (Nat → Int32) × (Nat → Int32)) (hu : u = f_X6_after a0 Th De To Tt Td) (k : ∀ (H1 : Heap) (locs1 : List Loc), va_P (dC, dI) vwCl (wM ad cI cJ u.2.1 Ce Le De Ke Kc Ko Kl Kd Ug Ur Va u.2.2.1 u.2.2.2.1 u.2.2.2.2 Go Gg Ga Be Bt Si Te Bz Bk) H1 → va_S A0 s.heap H1 locs1 → W p l e R s m args below meth c H1 locs1 (cells + 0) (slots + 0) Q (F0 m (pc + 3) ls (.int u.1 :: rest))) : W p l e R s m args below meth c H locs cells slots Q (F0 m pc ls (.int a0 :: .ref (ad 0) :: rest)) := by
  subst hu
  exact va_calli (va_runV (As := [.int a0]) (rest := rest) ⟨hx, hb, hml, hown, hts⟩ (c_X6_after l dC dI cI cJ ad hi H.size Th Ce Le De Ke Kc Ko Kl Kd Ug Ur Va To Tt Td Go Gg Ga Be Bt Si Te Bz Bk a0 hs) (kV 1 hts hlk mI_X6_after mN_RX6 mY_X6_after mV_X6_after rfl rfl (by decide +kernel) hR) ⟨fun a U g mk q => ⟨q.1, q.2.1, q.2.2.1, va_K.moved (u := U) (U := U.calling g mk a) (Vm.Alike.refl U.vm) q.2.2.2⟩, va_recv hK hP (ci := 8) (q0 := 0) rfl rfl, fun U hU hW => ⟨rfl, by rw [hU], by rw [hU]; exact hP, va_K.moved hW.alike hK⟩⟩ rfl rfl hz rfl (lv_room hw) hd hf) hS (fun q _ h => hA q h) (fun q h => hA q h) (fun r u t H1 locs1 ht hvm hw9 hB hz1 hk1 hS1 => by
    subst hw9
    exact k H1 locs1 (by rw [← ht]; exact hB) hS1)
theorem qf_X6_after {p : Program} {l : Launch} {e : Env} {R : Room} {s : State} {m : MethodId} {args : Array Value} {below : List Frame} {meth : Method} {c : Code} {H : Heap} {locs : List Loc} {cells slots : Nat} {Q : State → Prop} {pc : Nat} {ls : Array Slot} {rest : List Value} {cc : ByteArray} {nL idx : Nat} {own : String} {A0 : Nat → Prop} {dC : Nat → ClassId} {dI : Nat → Nat → Nat} {cI cJ : ClassId} {ad : Nat → Nat} {Th : Int32} {Ce : Nat → Int64} {Le : Nat → Int32} {De : Int32} {Ke : Int32} {Kc : Nat → Int64} {Ko : Nat → Int32} {Kl : Nat → Int32} {Kd : Nat → Int32} {Ug : Nat → Int64} {Ur : Nat → Int64} {Va : Nat → Int64} {To : Int32} {Tt : Nat → Int32} {Td : Nat → Int32} {Go : Int32} {Gg : Nat → Int32} {Ga : Nat → Int32} {Be : Int32} {Bt : Nat → Int32} {Si : Int32} {Te : Nat → Int32} {Bz : Int32} {Bk : Nat → Int32} (hx : p.tables.exec = Jvm.exec) (hb : c.code = cc) (hml : c.maxLocals = nL) (hown : s.vm.findClass own = some m.cls) (hts : ∀ w ∈ bigW, w.before args s = true) (hlk : Cond.methodLink own idx yX6_after ∈ bigW) (hR : 2 ≤ R.frames ∧ 48 ≤ R.locals) (hf : cells + 0 ≤ R.cells ∧ slots + 0 ≤ R.slots) (hz : ls.size = nL) (hw : (rest.map fun v => v.category).sum ≤ 8) (hS : va_S A0 s.heap H locs) (hd : decode cc pc = .ok (.invokevirtual idx, 3)) (hA : ∀ q, fA 17 ad H.size q → A0 q) (hi : fI 17 ad) (hK : va_K (dC, dI) vwCl [(cI, .int), (cJ, .long)] s) (hP : va_P (dC, dI) vwCl (wM ad cI cJ Th Ce Le De Ke Kc Ko Kl Kd Ug Ur Va To Tt Td Go Gg Ga Be Bt Si Te Bz Bk) H) (a0 : Int32) (hs : S_X6_after a0 Th De To Tt Td)  (u : Int32 × Int32 × Int32 × (Nat → Int32) × (Nat → Int32)) (hu : u = f_X6_after a0 Th De To Tt Td) (k : ∀ (H1 : Heap) (locs1 : List Loc), va_P (dC, dI) vwCl (wM ad cI cJ u.2.1 Ce Le De Ke Kc Ko Kl Kd Ug Ur Va u.2.2.1 u.2.2.2.1 u.2.2.2.2 Go Gg Ga Be Bt Si Te Bz Bk) H1 → va_S A0 s.heap H1 locs1 → (∀ q : Nat, q < H.size → ¬ fA 17 ad H.size q → H1[q]? = H[q]?) → H.size ≤ H1.size → W p l e R s m args below meth c H1 locs1 (cells + 0) (slots + 0) Q (F0 m (pc + 3) ls (.int u.1 :: rest))) : W p l e R s m args below meth c H locs cells slots Q (F0 m pc ls (.int a0 :: .ref (ad 0) :: rest)) := by
  subst hu
  exact va_calli (va_runV (As := [.int a0]) (rest := rest) ⟨hx, hb, hml, hown, hts⟩ (c_X6_after l dC dI cI cJ ad hi H.size Th Ce Le De Ke Kc Ko Kl Kd Ug Ur Va To Tt Td Go Gg Ga Be Bt Si Te Bz Bk a0 hs) (kV 1 hts hlk mI_X6_after mN_RX6 mY_X6_after mV_X6_after rfl rfl (by decide +kernel) hR) ⟨fun a U g mk q => ⟨q.1, q.2.1, q.2.2.1, va_K.moved (u := U) (U := U.calling g mk a) (Vm.Alike.refl U.vm) q.2.2.2⟩, va_recv hK hP (ci := 8) (q0 := 0) rfl rfl, fun U hU hW => ⟨rfl, by rw [hU], by rw [hU]; exact hP, va_K.moved hW.alike hK⟩⟩ rfl rfl hz rfl (lv_room hw) hd hf) hS (fun q _ h => hA q h) (fun q h => hA q h) (fun r u t H1 locs1 ht hvm hw9 hB hz1 hk1 hS1 => by
    subst hw9
    exact k H1 locs1 (by rw [← ht]; exact hB) hS1 hk1 hz1)
