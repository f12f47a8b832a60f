theorem W_gen {p : Program} {l : Launch} {e : Env} {R : Room} {s : State} {m : MethodId} {args : Array Value} {below : List Frame} {meth : Method} {c : Code} {H : Heap} {locs : List Loc} {cells slots : Nat} {Q : State → Prop} {g : JFrame} (k : ∀ Q9 : State → Prop, Q9 = Q → W p l e R s m args below meth c H locs cells slots Q9 g) : W p l e R s m args below meth c H locs cells slots Q g := k Q rfl
theorem mcp1 : Cond.native arraycopyName ∈ bigW := by decide +kernel
theorem mcp2 : Cond.static arraycopyName ∈ bigW := by decide +kernel
theorem mcp3 : Cond.initialized "java/lang/System" ∈ bigW := by decide +kernel
theorem nb_if {c : Prop} [Decidable c] {a b : Int32} (ha : narrow .boolean (.int a) = .int a) (hb : narrow .boolean (.int b) = .int b) : narrow .boolean (.int (if c then a else b)) = .int (if c then a else b) := by
  by_cases h : c
  · rw [if_pos h]; exact ha
  · rw [if_neg h]; exact hb

def f_X5_within (a0 : Int64) (a1 : Int64) (a2 : Int64) : Int32 := (if a0 < a1 then (0 : Int32) else (if a2 < a0 then (0 : Int32) else (1 : Int32)))
set_option maxHeartbeats 4000000 in
set_option maxRecDepth 100000 in
theorem c_X5_within (l : Launch) (hp : Heap) (a0 : Int64) (a1 : Int64) (a2 : Int64) : Met l yX5_within (mW yX5_within cX5_within 6 (some .boolean)) { frames := 0, cells := 0, slots := 0, locals := 0 } (va_Pc [.long a0, .long a1, .long a2] (fun U => U.heap = hp)) (va_Qi (fun (r : Int32) (_ : Unit) => r = f_X5_within a0 a1 a2) (fun _ t => t.heap = hp) (fun q : Nat => hp.size ≤ q)) 0 0 (fun q : Nat => hp.size ≤ q) := by
  refine Met.ofW (cc := cX5_within) (maxL := 6) (ret := (some .boolean)) (by decide) rfl ?_
  intro p e s m args below meth c s₁ B hml hv
  obtain ⟨rfl, hh⟩ := hv
  have hx := B.exec
  have hb := B.bytes
  have hr := B.returns
  have hts := mW_hts (atoms_spec (ws := (mW yX5_within cX5_within 6 (some .boolean))) B.pre)
  have hown : s.vm.findClass RX5 = some m.cls := findClass_of_methodNamed B.named
  have hlocks := B.notSynchronized
  subst hh
  have hA : ∀ (n : Nat) (q : Nat), s.heap.size ≤ n → n ≤ q → s.heap.size ≤ q := fun n q h1 h2 => Nat.le_trans h1 h2
  have hS : va_S ((fun q : Nat => s.heap.size ≤ q)) s.heap s.heap [] := va_S.rf
  have hA : ∀ q, s.heap.size ≤ q → ((fun q : Nat => s.heap.size ≤ q)) q := fun q h => h
  have hl := lv_entry ([.long a0, .long a1, .long a2]) (n := 6) (Nat.le_of_ble_eq_true rfl)
  rw [lg_entry_eq]
  generalize (lg_sl ([.long a0, .long a1, .long a2]) ++ List.replicate (6 - (lg_sl ([.long a0, .long a1, .long a2])).length) Slot.unset).toArray = ls at hl ⊢
  have hl : lv_has ls 6 [(0, .long a0), (2, .long a1), (4, .long a2)] := hl
  refine W_gen (fun Q9 hQ9 => ?_)
  refine lv_lload_n hx hb dX5_within_0 rfl (lv_at hl 0 rfl) ?_
  refine lv_lload_n hx hb dX5_within_1 rfl (lv_at hl 1 rfl) ?_
  refine W.lcmp hx hb dX5_within_2 ?_
  refine lv_if_lt (tgt := 17) hx hb dX5_within_3 (by decide) (fun c1 => ?_) (fun c1 => ?_)
  · have c1 : a0 < a1 := lc_lt.mp c1
    refine lv_iconst (v := 0) hx hb dX5_within_17 (by decide) ?_
    rw [hQ9]
    have hf : f_X5_within a0 a1 a2 = (0 : Int32) := by simp only [f_X5_within, if_pos c1]
    exact W.zret (v := (0 : Int32)) (ty := .boolean) hx hb hr (rfl) (fun t ht hW => ⟨⟨(0 : Int32), (), rfl, by rw [hf], ht⟩, hS.F ht⟩) hS.2.2 dX5_within_18
  · have c1 : ¬ a0 < a1 := fun z => c1 (lc_lt.mpr z)
    refine lv_lload_n hx hb dX5_within_6 rfl (lv_at hl 0 rfl) ?_
    refine lv_lload hx hb dX5_within_7 (lv_at hl 2 rfl) ?_
    refine W.lcmp hx hb dX5_within_9 ?_
    refine lv_if_gt (tgt := 17) hx hb dX5_within_10 (by decide) (fun c2 => ?_) (fun c2 => ?_)
    · have c2 : a2 < a0 := lc_gt.mp c2
      refine lv_iconst (v := 0) hx hb dX5_within_17 (by decide) ?_
      rw [hQ9]
      have hf : f_X5_within a0 a1 a2 = (0 : Int32) := by simp only [f_X5_within, if_neg c1, if_pos c2]
      exact W.zret (v := (0 : Int32)) (ty := .boolean) hx hb hr (rfl) (fun t ht hW => ⟨⟨(0 : Int32), (), rfl, by rw [hf], ht⟩, hS.F ht⟩) hS.2.2 dX5_within_18
    · have c2 : ¬ a2 < a0 := fun z => c2 (lc_gt.mpr z)
      refine lv_iconst (v := 1) hx hb dX5_within_13 (by decide) ?_
      refine lv_goto (tgt := 18) hx hb dX5_within_14 (by decide) ?_
      rw [hQ9]
      have hf : f_X5_within a0 a1 a2 = (1 : Int32) := by simp only [f_X5_within, if_neg c1, if_neg c2]
      exact W.zret (v := (1 : Int32)) (ty := .boolean) hx hb hr (rfl) (fun t ht hW => ⟨⟨(1 : Int32), (), rfl, by rw [hf], ht⟩, hS.F ht⟩) hS.2.2 dX5_within_18
theorem q_X5_within {p : Program} {l : Launch} {e : Env} {R : Room} {s : State} {m : MethodId} {args : Array Value} {below : List Frame} {meth : Method} {c : Code} {H : Heap} {locs : List Loc} {cells slots : Nat} {Q : State → Prop} {pc : Nat} {ls : Array Slot} {rest : List Value} {cc : ByteArray} {nL idx : Nat} {own : String} {A0 : Nat → Prop} (hx : p.tables.exec = Jvm.exec) (hb : c.code = cc) (hml : c.maxLocals = nL) (hown : s.vm.findClass own = some m.cls) (hts : ∀ w ∈ bigW, w.before args s = true) (hlk : Cond.methodLink own idx yX5_within ∈ bigW) (hR : 1 ≤ R.frames ∧ 25 ≤ R.locals) (hf : cells + 0 ≤ R.cells ∧ slots + 0 ≤ R.slots) (hz : ls.size = nL) (hw : (rest.map fun v => v.category).sum ≤ 8) (hS : va_S A0 s.heap H locs) (hd : decode cc pc = .ok (.invokestatic idx, 3)) (hA : ∀ q, s.heap.size ≤ q → A0 q) (a0 : Int64) (a1 : Int64) (a2 : Int64) (k : ∀ locs, va_S A0 s.heap H locs → W p l e R s m args below meth c H locs cells slots Q (F0 m (pc + 3) ls (.int (f_X5_within a0 a1 a2) :: rest))) : W p l e R s m args below meth c H locs cells slots Q (F0 m pc ls (.long a2 :: .long a1 :: .long a0 :: rest)) :=
  va_calli (va_runS (As := [.long a0, .long a1, .long a2]) (rest := rest) ⟨hx, hb, hml, hown, hts⟩ (c_X5_within l H a0 a1 a2) (kS 3 hts hlk mS_X5_within mN_RX5 mY_X5_within rfl rfl (by decide +kernel) hR) ⟨fun a U g mk q => q, fun U hU hW => ⟨rfl, hU⟩⟩ rfl rfl hz rfl (lv_room hw) hd hf) hS (fun q h1 h2 => absurd h1 (Nat.not_lt.mpr h2)) (fun q h => hA q (Nat.le_trans hS.1 h)) (fun r u t H1 locs1 ht hvm hw9 hB hz1 hk1 hS1 => by
    have e : H1 = H := by rw [← ht]; exact hB
    subst e; subst hw9
    exact k locs1 hS1)

def f_X5_checkKind (a0 : Int32) (a1 : Int32) : Nat := (if a0 < 0 then 1 else (if a0 ≤ a1 then 0 else 1))
set_option maxHeartbeats 4000000 in
set_option maxRecDepth 100000 in
theorem c_X5_checkKind (l : Launch) (hst : l.stackTraces = false) (hp : Heap) (a0 : Int32) (a1 : Int32) : vx_Met l yX5_checkKind (mW yX5_checkKind cX5_checkKind 2 none) { frames := 6, cells := 1, slots := 6, locals := 92 } (va_Pc [.int a0, .int a1] (fun U => U.heap = hp ∧ cxt (fun q : Nat => hp.size ≤ q) U U.heap)) (va_Qv (fun (_ : Unit) => f_X5_checkKind a0 a1 = 0) (fun _ t => t.heap = hp) (fun q : Nat => hp.size ≤ q)) (vx_X (fun _ : Unit => ¬ f_X5_checkKind a0 a1 = 0) (fun E _ t => E = exN (f_X5_checkKind a0 a1) ∧ True) (fun q : Nat => hp.size ≤ q)) 1 6 (fun q : Nat => hp.size ≤ q) := by
  refine vx_ofW (cc := cX5_checkKind) (maxL := 2) (ret := none) (by decide) rfl ?_
  intro p e s m args below meth c s₁ B hml ht hv
  obtain ⟨rfl, hh, hC⟩ := hv
  have hx := B.exec
  have hb := B.bytes
  have hr := B.returns
  have hts := mW_hts (atoms_spec (ws := (mW yX5_checkKind cX5_checkKind 2 none)) B.pre)
  have hown : s.vm.findClass RX5 = some m.cls := findClass_of_methodNamed B.named
  have hlocks := B.notSynchronized
  subst hh
  have hA : ∀ (n : Nat) (q : Nat), s.heap.size ≤ n → n ≤ q → s.heap.size ≤ q := fun n q h1 h2 => Nat.le_trans h1 h2
  have hS : va_S ((fun q : Nat => s.heap.size ≤ q)) s.heap s.heap [] := va_S.rf
  have hA : ∀ q, s.heap.size ≤ q → ((fun q : Nat => s.heap.size ≤ q)) q := fun q h => h
  have hl := lv_entry ([.int a0, .int a1]) (n := 2) (Nat.le_of_ble_eq_true rfl)
  rw [lg_entry_eq]
  generalize (lg_sl ([.int a0, .int a1]) ++ List.replicate (2 - (lg_sl ([.int a0, .int a1])).length) Slot.unset).toArray = ls at hl ⊢
  have hl : lv_has ls 2 [(0, .int a0), (1, .int a1)] := hl
  refine W_gen (fun Q9 hQ9 => ?_)
  refine lv_iload_n hx hb dX5_checkKind_0 rfl (lv_at hl 0 rfl) ?_
  refine lv_if_lt (tgt := 9) hx hb dX5_checkKind_1 (by decide) (fun c1 => ?_) (fun c1 => ?_)
  · rw [hQ9]
    have hf : f_X5_checkKind a0 a1 = 1 := by simp only [f_X5_checkKind, if_pos c1]
    obtain ⟨sa2, hsa2⟩ := hC.str 3 _ rfl
    refine vx_throwSW (mc := 1) (ms := 6) (ik := 62) (ic := 66) (is := 258) (own := RX5) (cls := x_IAE) (text := "no such KIND") (names := x_nam) hx hb hst hown (by decide) nm_x (hts _ mC_RX5_62) (hts _ mN_IllegalArgumentException) hsa2 (xw_IAE hts hC) xg_IAE hC.1 hC.2.1 hS (by rw [hml]; exact hl.1) dX5_checkKind_9 dX5_checkKind_12 dX5_checkKind_13 dX5_checkKind_16 dX5_checkKind_19 (fun x hx => (ht x hx).elim) (Nat.le_of_ble_eq_true rfl) (Nat.le_of_ble_eq_true rfl) (Nat.le_of_ble_eq_true rfl) (Nat.le_of_ble_eq_true rfl) hlocks (fun t hv hz hk => ⟨(), by rw [hf]; exact (by decide : ¬ (1 : Nat) = 0), ⟨by rw [hf]; rfl, True.intro⟩, ⟨Nat.le_trans hS.1 hz, fun q h1 h2 => (hk q (Nat.lt_of_lt_of_le h1 hS.1)).trans (hS.2.1 q h1 h2)⟩⟩) hS.2.2 (Nat.le_of_ble_eq_true rfl) (Nat.le_of_ble_eq_true rfl)
  · refine lv_iload_n hx hb dX5_checkKind_4 rfl (lv_at hl 0 rfl) ?_
    refine lv_iload_n hx hb dX5_checkKind_5 rfl (lv_at hl 1 rfl) ?_
    refine lv_icmp_le (tgt := 20) hx hb dX5_checkKind_6 (by decide) (fun c3 => ?_) (fun c3 => ?_)
    · rw [hQ9]
      have hf : f_X5_checkKind a0 a1 = 0 := by simp only [f_X5_checkKind, if_neg c1, if_pos c3]
      refine vx_ret ?_
      refine W.widen (k := 1) (n := 6) (Nat.le_of_ble_eq_true rfl) (Nat.le_of_ble_eq_true rfl) ?_
      exact W.vret hx hb hr (fun t ht hW => ⟨⟨(), rfl, by rw [hf], ht⟩, hS.F ht⟩) hS.2.2 dX5_checkKind_20
    · rw [hQ9]
      have hf : f_X5_checkKind a0 a1 = 1 := by simp only [f_X5_checkKind, if_neg c1, if_neg c3]
      obtain ⟨sa4, hsa4⟩ := hC.str 3 _ rfl
      refine vx_throwSW (mc := 1) (ms := 6) (ik := 62) (ic := 66) (is := 258) (own := RX5) (cls := x_IAE) (text := "no such KIND") (names := x_nam) hx hb hst hown (by decide) nm_x (hts _ mC_RX5_62) (hts _ mN_IllegalArgumentException) hsa4 (xw_IAE hts hC) xg_IAE hC.1 hC.2.1 hS (by rw [hml]; exact hl.1) dX5_checkKind_9 dX5_checkKind_12 dX5_checkKind_13 dX5_checkKind_16 dX5_checkKind_19 (fun x hx => (ht x hx).elim) (Nat.le_of_ble_eq_true rfl) (Nat.le_of_ble_eq_true rfl) (Nat.le_of_ble_eq_true rfl) (Nat.le_of_ble_eq_true rfl) hlocks (fun t hv hz hk => ⟨(), by rw [hf]; exact (by decide : ¬ (1 : Nat) = 0), ⟨by rw [hf]; rfl, True.intro⟩, ⟨Nat.le_trans hS.1 hz, fun q h1 h2 => (hk q (Nat.lt_of_lt_of_le h1 hS.1)).trans (hS.2.1 q h1 h2)⟩⟩) hS.2.2 (Nat.le_of_ble_eq_true rfl) (Nat.le_of_ble_eq_true rfl)
theorem q_X5_checkKind {p : Program} {l : Launch} {e : Env} {R : Room} {s : State} {m : MethodId} {args : Array Value} {below : List Frame} {meth : Method} {c : Code} {H : Heap} {locs : List Loc} {cells slots : Nat} {Q : State → Prop} {pc : Nat} {ls : Array Slot} {rest : List Value} {cc : ByteArray} {nL idx : Nat} {own : String} {A0 : Nat → Prop} (hst : l.stackTraces = false) (hx : p.tables.exec = Jvm.exec) (hb : c.code = cc) (hml : c.maxLocals = nL) (hown : s.vm.findClass own = some m.cls) (hts : ∀ w ∈ bigW, w.before args s = true) (hlk : Cond.methodLink own idx yX5_checkKind ∈ bigW) (hR : 7 ≤ R.frames ∧ 113 ≤ R.locals) (hf : cells + 1 ≤ R.cells ∧ slots + 6 ≤ R.slots) (hz : ls.size = nL) (hw : (rest.map fun v => v.category).sum ≤ 8) (hS : va_S A0 s.heap H locs) (hd : decode cc pc = .ok (.invokestatic idx, 3)) (hA : ∀ q, s.heap.size ≤ q → A0 q) (hC : cxt A0 s s.heap) (a0 : Int32) (a1 : Int32) (u : Nat) (hu : u = f_X5_checkKind a0 a1) (kx : ∀ {E : String} (hE : E = exN u) (ho : ¬ u = 0) (H1 : Heap) (locs1 : List Loc), (∀ q : Nat, q < H.size → H1[q]? = H[q]?) → H.size ≤ H1.size → va_S A0 s.heap H1 locs1 → ∀ (ce : Cell) (q9 : Addr), H1[q9]? = some ce → ce.vm = .none → s.vm.findClass E = some ce.cls → vx_W p l e R s m args below meth c H1 locs1 (cells + 1) (slots + 6) Q (F0 m pc ls rest) q9) (k : u = 0 → ∀ locs, va_S A0 s.heap H locs → W p l e R s m args below meth c H locs (cells + 1) (slots + 6) Q (F0 m (pc + 3) ls (rest))) : W p l e R s m args below meth c H locs cells slots Q (F0 m pc ls (.int a1 :: .int a0 :: rest)) := by
  subst hu
  exact vx_callv (vx_runS (As := [.int a0, .int a1]) (rest := rest) ⟨hx, hb, hml, hown, hts⟩ (c_X5_checkKind l hst H a0 a1) (kS 2 hts hlk mS_X5_checkKind mN_RX5 mY_X5_checkKind rfl rfl (by decide +kernel) hR) ⟨fun a U g mk q => ⟨q.1, q.2.1, q.2.2.call⟩, fun U hU hW => ⟨rfl, hU, hC.here hS hU hW (fun q h => hA q (Nat.le_trans hS.1 h))⟩⟩ rfl rfl hz rfl (lv_room hw) hd hf) hS (fun q h1 h2 => absurd h1 (Nat.not_lt.mpr h2)) (fun q h => hA q (Nat.le_trans hS.1 h)) (fun q h1 h2 => absurd h1 (Nat.not_lt.mpr h2)) (fun E ce q9 u t H1 locs1 ht hvm hw9 hB hz1 hk1 hS1 h1 h2 h3 => kx hB.1 hw9 H1 locs1 (fun q hq => hk1 q hq (Nat.not_le.mpr hq)) hz1 hS1 ce q9 h1 h2 h3) (fun u t H1 locs1 ht hvm hw9 hB hz1 hk1 hS1 => by
    have e : H1 = H := by rw [← ht]; exact hB
    subst e; have e1 := hw9
    exact k e1 locs1 hS1)

def f_X4_clear (Sm : Int32) : Int32 := (0 : Int32)
set_option maxHeartbeats 4000000 in
set_option maxRecDepth 100000 in
theorem c_X4_clear (l : Launch) (dC : Nat → ClassId) (dI : Nat → Nat → Nat) (cI cJ : ClassId) (ad : Nat → Nat) (hi : fI 23 ad) (sz : Nat) (Bc : Nat → Int64) (Bl : Nat → Int32) (Pk : Nat → Int32) (Pr : Nat → Int32) (Pl : Nat → Int32) (Pc : Nat → Int64) (Pm : Int32) (Gf : Nat → Int32) (Gt : Nat → Int32) (Gx : Nat → Int32) (Gd : Int32) (Gm : Int32) (Ek : Nat → Int32) (Er : Nat → Int32) (Ea : Nat → Int32) (Ex : Nat → Int32) (Em : Int32) (Eb : Int32) (Et : Int32) (Ss : Nat → Int32) (Sm : Int32) (Wg : Nat → Int64) (Wr : Nat → Int64) (Md : Nat → Int64) : Met l yX4_clear (mW yX4_clear cX4_clear 1 none) { frames := 0, cells := 0, slots := 0, locals := 0 } (va_Pc [.ref (ad 18)] (fun U => U.heap.size = sz ∧ va_P (dC, dI) vwCl (wC ad cI cJ Bc Bl Pk Pr Pl Pc Pm Gf Gt Gx Gd Gm Ek Er Ea Ex Em Eb Et Ss Sm Wg Wr Md) U.heap ∧ va_K (dC, dI) vwCl [(cI, .int), (cJ, .long)] U)) (va_Qv (fun (_ : Unit) => True) (fun _ t => va_P (dC, dI) vwCl (wC ad cI cJ Bc Bl Pk Pr Pl Pc Pm Gf Gt Gx Gd Gm Ek Er Ea Ex Em Eb Et Ss (f_X4_clear Sm) Wg Wr Md) t.heap) (fA 23 ad sz)) 0 0 (fA 23 ad sz) := by
  refine Met.ofW (cc := cX4_clear) (maxL := 1) (ret := none) (by decide) rfl ?_
  intro p e s m args below meth c s₁ B hml hv
  obtain ⟨rfl, hsz, hP, hK⟩ := hv
  have hx := B.exec
  have hb := B.bytes
  have hr := B.returns
  have hts := mW_hts (atoms_spec (ws := (mW yX4_clear cX4_clear 1 none)) B.pre)
  have hown : s.vm.findClass RX4 = some m.cls := findClass_of_methodNamed B.named
  have hlocks := B.notSynchronized
  subst hsz
  have hA : ∀ (n : Nat) (q : Nat), s.heap.size ≤ n → n ≤ q → fA 23 ad s.heap.size q := fun n q h1 h2 => Or.inr (Nat.le_trans h1 h2)
  have hS : va_S (fA 23 ad s.heap.size) s.heap s.heap [] := va_S.rf
  have hA : ∀ q, s.heap.size ≤ q → (fA 23 ad s.heap.size) q := fun q h => Or.inr h
  have hl := lv_entry ([.ref (ad 18)]) (n := 1) (Nat.le_of_ble_eq_true rfl)
  rw [lg_entry_eq]
  generalize (lg_sl ([.ref (ad 18)]) ++ List.replicate (1 - (lg_sl ([.ref (ad 18)])).length) Slot.unset).toArray = ls at hl ⊢
  have hl : lv_has ls 1 [(0, .ref (ad 18))] := hl
  refine W_gen (fun Q9 hQ9 => ?_)
  refine lv_aload_n hx hb dX4_clear_0 rfl (lv_at hl 0 rfl) ?_
  refine lv_iconst (v := 0) hx hb dX4_clear_1 (by decide) ?_
  refine va_put (D := (dC, dI)) (ci := 6) (v := .int (0 : Int32)) (ty := .int) (C := RX4) (T := TX4) (N := 2) hx hb hts iW_X4 tyX4 tyX4_ok nmX4 hown hK hP (fA_D hi rfl) hS 18 rfl rfl 1 (by decide) (hts _ mF_RX4_15) (fun _ h9 => h9) rfl (by decide +kernel) rfl rfl (Nat.le_of_ble_eq_true rfl) dX4_clear_2 (fun H locs hP _ hS => ?_)
  have hP : va_P (dC, dI) vwCl (wC ad cI cJ Bc Bl Pk Pr Pl Pc Pm Gf Gt Gx Gd Gm Ek Er Ea Ex Em Eb Et Ss (0 : Int32) Wg Wr Md) H := hP
  rw [hQ9]
  have hf : f_X4_clear Sm = (0 : Int32) := by simp only [f_X4_clear]
  exact W.vret hx hb hr (fun t ht hW => ⟨⟨(), rfl, True.intro, by rw [hf]; show va_P (dC, dI) vwCl _ t.heap; rw [ht]; exact hP⟩, hS.F ht⟩) hS.2.2 dX4_clear_5
theorem q_X4_clear {p : Program} {l : Launch} {e : Env} {R : Room} {s : State} {m : MethodId} {args : Array Value} {below : List Frame} {meth : Method} {c : Code} {H : Heap} {locs : List Loc} {cells slots : Nat} {Q : State → Prop} {pc : Nat} {ls : Array Slot} {rest : List Value} {cc : ByteArray} {nL idx : Nat} {own : String} {A0 : Nat → Prop} {dC : Nat → ClassId} {dI : Nat → Nat → Nat} {cI cJ : ClassId} {ad : Nat → Nat} {Bc : Nat → Int64} {Bl : Nat → Int32} {Pk : Nat → Int32} {Pr : Nat → Int32} {Pl : Nat → Int32} {Pc : Nat → Int64} {Pm : Int32} {Gf : Nat → Int32} {Gt : Nat → Int32} {Gx : Nat → Int32} {Gd : Int32} {Gm : Int32} {Ek : Nat → Int32} {Er : Nat → Int32} {Ea : Nat → Int32} {Ex : Nat → Int32} {Em : Int32} {Eb : Int32} {Et : Int32} {Ss : Nat → Int32} {Sm : Int32} {Wg : Nat → Int64} {Wr : Nat → Int64} {Md : Nat → Int64} (hx : p.tables.exec = Jvm.exec) (hb : c.code = cc) (hml : c.maxLocals = nL) (hown : s.vm.findClass own = some m.cls) (hts : ∀ w ∈ bigW, w.before args s = true) (hlk : Cond.methodLink own idx yX4_clear ∈ bigW) (hR : 1 ≤ R.frames ∧ 20 ≤ R.locals) (hf : cells + 0 ≤ R.cells ∧ slots + 0 ≤ R.slots) (hz : ls.size = nL) (hw : (rest.map fun v => v.category).sum ≤ 8) (hS : va_S A0 s.heap H locs) (hd : decode cc pc = .ok (.invokevirtual idx, 3)) (hA : ∀ q, fA 23 ad H.size q → A0 q) (hi : fI 23 ad) (hK : va_K (dC, dI) vwCl [(cI, .int), (cJ, .long)] s) (hP : va_P (dC, dI) vwCl (wC ad cI cJ Bc Bl Pk Pr Pl Pc Pm Gf Gt Gx Gd Gm Ek Er Ea Ex Em Eb Et Ss Sm Wg Wr Md) H)  (u : Int32) (hu : u = f_X4_clear Sm) (k : ∀ (H1 : Heap) (locs1 : List Loc), va_P (dC, dI) vwCl (wC ad cI cJ Bc Bl Pk Pr Pl Pc Pm Gf Gt Gx Gd Gm Ek Er Ea Ex Em Eb Et Ss u Wg Wr Md) H1 → va_S A0 s.heap H1 locs1 → W p l e R s m args below meth c H1 locs1 (cells + 0) (slots + 0) Q (F0 m (pc + 3) ls (rest))) : W p l e R s m args below meth c H locs cells slots Q (F0 m pc ls (.ref (ad 18) :: rest)) := by
  subst hu
  exact va_callv (va_runV (As := []) (rest := rest) ⟨hx, hb, hml, hown, hts⟩ (c_X4_clear l dC dI cI cJ ad hi H.size Bc Bl Pk Pr Pl Pc Pm Gf Gt Gx Gd Gm Ek Er Ea Ex Em Eb Et Ss Sm Wg Wr Md) (kV 0 hts hlk mI_X4_clear mN_RX4 mY_X4_clear mV_X4_clear rfl rfl (by decide +kernel) hR) ⟨fun a U g mk q => ⟨q.1, q.2.1, q.2.2.1, va_K.moved (u := U) (U := U.calling g mk a) (Vm.Alike.refl U.vm) q.2.2.2⟩, va_recv hK hP (ci := 6) (q0 := 18) rfl rfl, fun U hU hW => ⟨rfl, by rw [hU], by rw [hU]; exact hP, va_K.moved hW.alike hK⟩⟩ rfl rfl hz rfl (lv_room hw) hd hf) hS (fun q _ h => hA q h) (fun q h => hA q h) (fun u t H1 locs1 ht hvm hw9 hB hz1 hk1 hS1 => by
    skip
    exact k H1 locs1 (by rw [← ht]; exact hB) hS1)

def f_X4_write (a0 : Int32) (Ss : Nat → Int32) (Sm : Int32) : (Nat → Int32) × Int32 := (if Sm < 0 then (Ss, Sm) else (if (61 : Int32) ≤ Sm then (Ss, Sm) else ((upd Ss Sm.toNatClampNeg a0), (Sm + (1 : Int32)))))
def S_X4_write (a0 : Int32) (Ss : Nat → Int32) (Sm : Int32) : Prop := (Sm < 0 → (True)) ∧ (¬ Sm < 0 → (((61 : Int32) ≤ Sm → (True)) ∧ (¬ (61 : Int32) ≤ Sm → ((vp_in Sm 61) ∧ (True)))))
set_option maxHeartbeats 4000000 in
set_option maxRecDepth 100000 in
theorem c_X4_write (l : Launch) (dC : Nat → ClassId) (dI : Nat → Nat → Nat) (cI cJ : ClassId) (ad : Nat → Nat) (hi : fI 23 ad) (sz : Nat) (Bc : Nat → Int64) (Bl : Nat → Int32) (Pk : Nat → Int32) (Pr : Nat → Int32) (Pl : Nat → Int32) (Pc : Nat → Int64) (Pm : Int32) (Gf : Nat → Int32) (Gt : Nat → Int32) (Gx : Nat → Int32) (Gd : Int32) (Gm : Int32) (Ek : Nat → Int32) (Er : Nat → Int32) (Ea : Nat → Int32) (Ex : Nat → Int32) (Em : Int32) (Eb : Int32) (Et : Int32) (Ss : Nat → Int32) (Sm : Int32) (Wg : Nat → Int64) (Wr : Nat → Int64) (Md : Nat → Int64) (a0 : Int32) (hs : S_X4_write a0 Ss Sm) : Met l yX4_write (mW yX4_write cX4_write 2 none) { frames := 0, cells := 0, slots := 0, locals := 0 } (va_Pc [.ref (ad 18), .int a0] (fun U => U.heap.size = sz ∧ va_P (dC, dI) vwCl (wC ad cI cJ Bc Bl Pk Pr Pl Pc Pm Gf Gt Gx Gd Gm Ek Er Ea Ex Em Eb Et Ss Sm Wg Wr Md) U.heap ∧ va_K (dC, dI) vwCl [(cI, .int), (cJ, .long)] U)) (va_Qv (fun (_ : Unit) => True) (fun _ t => va_P (dC, dI) vwCl (wC ad cI cJ Bc Bl Pk Pr Pl Pc Pm Gf Gt Gx Gd Gm Ek Er Ea Ex Em Eb Et ((f_X4_write a0 Ss Sm).1) ((f_X4_write a0 Ss Sm).2) Wg Wr Md) t.heap) (fA 23 ad sz)) 0 0 (fA 23 ad sz) := by
  refine Met.ofW (cc := cX4_write) (maxL := 2) (ret := none) (by decide) rfl ?_
  intro p e s m args below meth c s₁ B hml hv
  obtain ⟨rfl, hsz, hP, hK⟩ := hv
  have hx := B.exec
  have hb := B.bytes
  have hr := B.returns
  have hts := mW_hts (atoms_spec (ws := (mW yX4_write cX4_write 2 none)) B.pre)
  have hown : s.vm.findClass RX4 = some m.cls := findClass_of_methodNamed B.named
  have hlocks := B.notSynchronized
  subst hsz
  have hA : ∀ (n : Nat) (q : Nat), s.heap.size ≤ n → n ≤ q → fA 23 ad s.heap.size q := fun n q h1 h2 => Or.inr (Nat.le_trans h1 h2)
  have hS : va_S (fA 23 ad s.heap.size) s.heap s.heap [] := va_S.rf
  have hA : ∀ q, s.heap.size ≤ q → (fA 23 ad s.heap.size) q := fun q h => Or.inr h
  unfold S_X4_write at hs
  have hl := lv_entry ([.ref (ad 18), .int a0]) (n := 2) (Nat.le_of_ble_eq_true rfl)
  rw [lg_entry_eq]
  generalize (lg_sl ([.ref (ad 18), .int a0]) ++ List.replicate (2 - (lg_sl ([.ref (ad 18), .int a0])).length) Slot.unset).toArray = ls at hl ⊢
  have hl : lv_has ls 2 [(0, .ref (ad 18)), (1, .int a0)] := hl
  refine W_gen (fun Q9 hQ9 => ?_)
  refine lv_aload_n hx hb dX4_write_0 rfl (lv_at hl 0 rfl) ?_
  refine va_get (D := (dC, dI)) (ci := 6) (v := .int Sm) (C := RX4) (T := TX4) (N := 2) hx hb hts iW_X4 hown hK hP 18 rfl rfl 1 (by decide) (hts _ mF_RX4_15) (fun _ h9 => h9) rfl dX4_write_1 ?_
  refine lv_if_lt (tgt := 36) hx hb dX4_write_4 (by decide) (fun c1 => ?_) (fun c1 => ?_)
  · have hs := hs.1 c1
    rw [hQ9]
    have hf : f_X4_write a0 Ss Sm = (Ss, Sm) := by simp only [f_X4_write, if_pos c1]
    exact W.vret hx hb hr (fun t ht hW => ⟨⟨(), rfl, True.intro, by rw [hf]; show va_P (dC, dI) vwCl _ t.heap; rw [ht]; exact hP⟩, hS.F ht⟩) hS.2.2 dX4_write_36
  · have hs := hs.2 c1
    refine lv_aload_n hx hb dX4_write_7 rfl (lv_at hl 0 rfl) ?_
    refine va_get (D := (dC, dI)) (ci := 6) (v := .int Sm) (C := RX4) (T := TX4) (N := 2) hx hb hts iW_X4 hown hK hP 18 rfl rfl 1 (by decide) (hts _ mF_RX4_15) (fun _ h9 => h9) rfl dX4_write_8 ?_
    refine lv_bipush (v := 61) hx hb dX4_write_11 (by decide) ?_
    refine lv_icmp_ge (tgt := 36) hx hb dX4_write_13 (by decide) (fun c2 => ?_) (fun c2 => ?_)
    · have hs := hs.1 c2
      rw [hQ9]
      have hf : f_X4_write a0 Ss Sm = (Ss, Sm) := by simp only [f_X4_write, if_neg c1, if_pos c2]
      exact W.vret hx hb hr (fun t ht hW => ⟨⟨(), rfl, True.intro, by rw [hf]; show va_P (dC, dI) vwCl _ t.heap; rw [ht]; exact hP⟩, hS.F ht⟩) hS.2.2 dX4_write_36
    · have hs := hs.2 c2
      refine lv_aload_n hx hb dX4_write_16 rfl (lv_at hl 0 rfl) ?_
      refine va_get (D := (dC, dI)) (ci := 6) (v := .ref (ad 19)) (C := RX4) (T := TX4) (N := 2) hx hb hts iW_X4 hown hK hP 18 rfl rfl 0 (by decide) (hts _ mF_RX4_9) (fun _ h9 => h9) rfl dX4_write_17 ?_
      refine lv_aload_n hx hb dX4_write_20 rfl (lv_at hl 0 rfl) ?_
      refine va_get (D := (dC, dI)) (ci := 6) (v := .int Sm) (C := RX4) (T := TX4) (N := 2) hx hb hts iW_X4 hown hK hP 18 rfl rfl 1 (by decide) (hts _ mF_RX4_15) (fun _ h9 => h9) rfl dX4_write_21 ?_
      refine lv_iload_n hx hb dX4_write_24 rfl (lv_at hl 1 rfl) ?_
      obtain ⟨h3, hs⟩ := hs
      refine va_iast hx hb hK hP (fA_D hi rfl) hS 19 0 rfl rfl h3 dX4_write_25 (fun H locs hP _ hS => ?_)
      have hP : va_P (dC, dI) vwCl (wC ad cI cJ Bc Bl Pk Pr Pl Pc Pm Gf Gt Gx Gd Gm Ek Er Ea Ex Em Eb Et (upd Ss Sm.toNatClampNeg a0) Sm Wg Wr Md) H := hP
      refine lv_aload_n hx hb dX4_write_26 rfl (lv_at hl 0 rfl) ?_
      refine lv_dup hx hb dX4_write_27 rfl ?_
      refine va_get (D := (dC, dI)) (ci := 6) (v := .int Sm) (C := RX4) (T := TX4) (N := 2) hx hb hts iW_X4 hown hK hP 18 rfl rfl 1 (by decide) (hts _ mF_RX4_15) (fun _ h9 => h9) rfl dX4_write_28 ?_
      refine lv_iconst (v := 1) hx hb dX4_write_31 (by decide) ?_
      refine lv_iadd hx hb dX4_write_32 ?_
      refine va_put (D := (dC, dI)) (ci := 6) (v := .int (Sm + (1 : Int32))) (ty := .int) (C := RX4) (T := TX4) (N := 2) hx hb hts iW_X4 tyX4 tyX4_ok nmX4 hown hK hP (fA_D hi rfl) hS 18 rfl rfl 1 (by decide) (hts _ mF_RX4_15) (fun _ h9 => h9) rfl (by decide +kernel) rfl rfl (Nat.le_of_ble_eq_true rfl) dX4_write_33 (fun H locs hP _ hS => ?_)
      have hP : va_P (dC, dI) vwCl (wC ad cI cJ Bc Bl Pk Pr Pl Pc Pm Gf Gt Gx Gd Gm Ek Er Ea Ex Em Eb Et (upd Ss Sm.toNatClampNeg a0) (Sm + (1 : Int32)) Wg Wr Md) H := hP
      rw [hQ9]
      have hf : f_X4_write a0 Ss Sm = ((upd Ss Sm.toNatClampNeg a0), (Sm + (1 : Int32))) := by simp only [f_X4_write, if_neg c1, if_neg c2]
      exact W.vret hx hb hr (fun t ht hW => ⟨⟨(), rfl, True.intro, by rw [hf]; show va_P (dC, dI) vwCl _ t.heap; rw [ht]; exact hP⟩, hS.F ht⟩) hS.2.2 dX4_write_36
theorem q_X4_write {p : Program} {l : Launch} {e : Env} {R : Room} {s : State} {m : MethodId} {args : Array Value} {below : List Frame} {meth : Method} {c : Code} {H : Heap} {locs : List Loc} {cells slots : Nat} {Q : State → Prop} {pc : Nat} {ls : Array Slot} {rest : List Value} {cc : ByteArray} {nL idx : Nat} {own : String} {A0 : Nat → Prop} {dC : Nat → ClassId} {dI : Nat → Nat → Nat} {cI cJ : ClassId} {ad : Nat → Nat} {Bc : Nat → Int64} {Bl : Nat → Int32} {Pk : Nat → Int32} {Pr : Nat → Int32} {Pl : Nat → Int32} {Pc : Nat → Int64} {Pm : Int32} {Gf : Nat → Int32} {Gt : Nat → Int32} {Gx : Nat → Int32} {Gd : Int32} {Gm : Int32} {Ek : Nat → Int32} {Er : Nat → Int32} {Ea : Nat → Int32} {Ex : Nat → Int32} {Em : Int32} {Eb : Int32} {Et : Int32} {Ss : Nat → Int32} {Sm : Int32} {Wg : Nat → Int64} {Wr : Nat → Int64} {Md : Nat → Int64} (hx : p.tables.exec = Jvm.exec) (hb : c.code = cc) (hml : c.maxLocals = nL) (hown : s.vm.findClass own = some m.cls) (hts : ∀ w ∈ bigW, w.before args s = true) (hlk : Cond.methodLink own idx yX4_write ∈ bigW) (hR : 1 ≤ R.frames ∧ 21 ≤ R.locals) (hf : cells + 0 ≤ R.cells ∧ slots + 0 ≤ R.slots) (hz : ls.size = nL) (hw : (rest.map fun v => v.category).sum ≤ 8) (hS : va_S A0 s.heap H locs) (hd : decode cc pc = .ok (.invokevirtual idx, 3)) (hA : ∀ q, fA 23 ad H.size q → A0 q) (hi : fI 23 ad) (hK : va_K (dC, dI) vwCl [(cI, .int), (cJ, .long)] s) (hP : va_P (dC, dI) vwCl (wC ad cI cJ Bc Bl Pk Pr Pl Pc Pm Gf Gt Gx Gd Gm Ek Er Ea Ex Em Eb Et Ss Sm Wg Wr Md) H) (a0 : Int32) (hs : S_X4_write a0 Ss Sm)  (u : (Nat → Int32) × Int32) (hu : u = f_X4_write a0 Ss Sm) (k : ∀ (H1 : Heap) (locs1 : List Loc), va_P (dC, dI) vwCl (wC ad cI cJ Bc Bl Pk Pr Pl Pc Pm Gf Gt Gx Gd Gm Ek Er Ea Ex Em Eb Et u.1 u.2 Wg Wr Md) H1 → va_S A0 s.heap H1 locs1 → W p l e R s m args below meth c H1 locs1 (cells + 0) (slots + 0) Q (F0 m (pc + 3) ls (rest))) : W p l e R s m args below meth c H locs cells slots Q (F0 m pc ls (.int a0 :: .ref (ad 18) :: rest)) := by
  subst hu
  exact va_callv (va_runV (As := [.int a0]) (rest := rest) ⟨hx, hb, hml, hown, hts⟩ (c_X4_write l dC dI cI cJ ad hi H.size Bc Bl Pk Pr Pl Pc Pm Gf Gt Gx Gd Gm Ek Er Ea Ex Em Eb Et Ss Sm Wg Wr Md a0 hs) (kV 1 hts hlk mI_X4_write mN_RX4 mY_X4_write mV_X4_write rfl rfl (by decide +kernel) hR) ⟨fun a U g mk q => ⟨q.1, q.2.1, q.2.2.1, va_K.moved (u := U) (U := U.calling g mk a) (Vm.Alike.refl U.vm) q.2.2.2⟩, va_recv hK hP (ci := 6) (q0 := 18) rfl rfl, fun U hU hW => ⟨rfl, by rw [hU], by rw [hU]; exact hP, va_K.moved hW.alike hK⟩⟩ rfl rfl hz rfl (lv_room hw) hd hf) hS (fun q _ h => hA q h) (fun q h => hA q h) (fun u t H1 locs1 ht hvm hw9 hB hz1 hk1 hS1 => by
    skip
    exact k H1 locs1 (by rw [← ht]; exact hB) hS1)

def f_X0_place (a0 : Int32) (a1 : Int32) : Int32 := ((a0 * (32 : Int32)) + a1)
set_option maxHeartbeats 4000000 in
set_option maxRecDepth 100000 in
theorem c_X0_place (l : Launch) (hp : Heap) (a0 : Int32) (a1 : Int32) : Met l yX0_place (mW yX0_place cX0_place 2 (some .int)) { frames := 0, cells := 0, slots := 0, locals := 0 } (va_Pc [.int a0, .int a1] (fun U => U.heap = hp)) (va_Qi (fun (r : Int32) (_ : Unit) => r = f_X0_place a0 a1) (fun _ t => t.heap = hp) (fun q : Nat => hp.size ≤ q)) 0 0 (fun q : Nat => hp.size ≤ q) := by
  refine Met.ofW (cc := cX0_place) (maxL := 2) (ret := (some .int)) (by decide) rfl ?_
  intro p e s m args below meth c s₁ B hml hv
  obtain ⟨rfl, hh⟩ := hv
  have hx := B.exec
  have hb := B.bytes
  have hr := B.returns
  have hts := mW_hts (atoms_spec (ws := (mW yX0_place cX0_place 2 (some .int))) B.pre)
  have hown : s.vm.findClass RX0 = some m.cls := findClass_of_methodNamed B.named
  have hlocks := B.notSynchronized
  subst hh
  have hA : ∀ (n : Nat) (q : Nat), s.heap.size ≤ n → n ≤ q → s.heap.size ≤ q := fun n q h1 h2 => Nat.le_trans h1 h2
  have hS : va_S ((fun q : Nat => s.heap.size ≤ q)) s.heap s.heap [] := va_S.rf
  have hA : ∀ q, s.heap.size ≤ q → ((fun q : Nat => s.heap.size ≤ q)) q := fun q h => h
  have hl := lv_entry ([.int a0, .int a1]) (n := 2) (Nat.le_of_ble_eq_true rfl)
  rw [lg_entry_eq]
  generalize (lg_sl ([.int a0, .int a1]) ++ List.replicate (2 - (lg_sl ([.int a0, .int a1])).length) Slot.unset).toArray = ls at hl ⊢
  have hl : lv_has ls 2 [(0, .int a0), (1, .int a1)] := hl
  refine W_gen (fun Q9 hQ9 => ?_)
  refine lv_iload_n hx hb dX0_place_0 rfl (lv_at hl 0 rfl) ?_
  refine lv_bipush (v := 32) hx hb dX0_place_1 (by decide) ?_
  refine lv_imul hx hb dX0_place_3 ?_
  refine lv_iload_n hx hb dX0_place_4 rfl (lv_at hl 1 rfl) ?_
  refine lv_iadd hx hb dX0_place_5 ?_
  rw [hQ9]
  have hf : f_X0_place a0 a1 = ((a0 * (32 : Int32)) + a1) := by simp only [f_X0_place]
  exact W.iret (v := ((a0 * (32 : Int32)) + a1)) hx hb hr (fun t ht hW => ⟨⟨((a0 * (32 : Int32)) + a1), (), rfl, by rw [hf], ht⟩, hS.F ht⟩) hS.2.2 dX0_place_6
theorem q_X0_place {p : Program} {l : Launch} {e : Env} {R : Room} {s : State} {m : MethodId} {args : Array Value} {below : List Frame} {meth : Method} {c : Code} {H : Heap} {locs : List Loc} {cells slots : Nat} {Q : State → Prop} {pc : Nat} {ls : Array Slot} {rest : List Value} {cc : ByteArray} {nL idx : Nat} {own : String} {A0 : Nat → Prop} (hx : p.tables.exec = Jvm.exec) (hb : c.code = cc) (hml : c.maxLocals = nL) (hown : s.vm.findClass own = some m.cls) (hts : ∀ w ∈ bigW, w.before args s = true) (hlk : Cond.methodLink own idx yX0_place ∈ bigW) (hR : 1 ≤ R.frames ∧ 21 ≤ R.locals) (hf : cells + 0 ≤ R.cells ∧ slots + 0 ≤ R.slots) (hz : ls.size = nL) (hw : (rest.map fun v => v.category).sum ≤ 8) (hS : va_S A0 s.heap H locs) (hd : decode cc pc = .ok (.invokestatic idx, 3)) (hA : ∀ q, s.heap.size ≤ q → A0 q) (a0 : Int32) (a1 : Int32) (k : ∀ locs, va_S A0 s.heap H locs → W p l e R s m args below meth c H locs cells slots Q (F0 m (pc + 3) ls (.int (f_X0_place a0 a1) :: rest))) : W p l e R s m args below meth c H locs cells slots Q (F0 m pc ls (.int a1 :: .int a0 :: rest)) :=
  va_calli (va_runS (As := [.int a0, .int a1]) (rest := rest) ⟨hx, hb, hml, hown, hts⟩ (c_X0_place l H a0 a1) (kS 2 hts hlk mS_X0_place mN_RX0 mY_X0_place rfl rfl (by decide +kernel) hR) ⟨fun a U g mk q => q, fun U hU hW => ⟨rfl, hU⟩⟩ rfl rfl hz rfl (lv_room hw) hd hf) hS (fun q h1 h2 => absurd h1 (Nat.not_lt.mpr h2)) (fun q h => hA q (Nat.le_trans hS.1 h)) (fun r u t H1 locs1 ht hvm hw9 hB hz1 hk1 hS1 => by
    have e : H1 = H := by rw [← ht]; exact hB
    subst e; subst hw9
    exact k locs1 hS1)

def f_X0_home (a0 : Int32) (a1 : Int32) : Int32 := ((gHOMES a0) + (a1 * (gWIDTHS a0)))
def S_X0_home (a0 : Int32) (a1 : Int32) : Prop := (vp_in a0 5) ∧ ((vp_in a0 5) ∧ (True))
set_option maxHeartbeats 4000000 in
set_option maxRecDepth 100000 in
theorem c_X0_home (l : Launch) (hp : Heap) (a0 : Int32) (a1 : Int32) (hs : S_X0_home a0 a1) : Met l yX0_home (mW yX0_home cX0_home 2 (some .int)) { frames := 0, cells := 0, slots := 0, locals := 0 } (va_Pc [.int a0, .int a1] (fun U => U.heap = hp ∧ cxt (fun q : Nat => hp.size ≤ q) U U.heap)) (va_Qi (fun (r : Int32) (_ : Unit) => r = f_X0_home a0 a1) (fun _ t => t.heap = hp) (fun q : Nat => hp.size ≤ q)) 0 0 (fun q : Nat => hp.size ≤ q) := by
  refine Met.ofW (cc := cX0_home) (maxL := 2) (ret := (some .int)) (by decide) rfl ?_
  intro p e s m args below meth c s₁ B hml hv
  obtain ⟨rfl, hh, hC⟩ := hv
  have hx := B.exec
  have hb := B.bytes
  have hr := B.returns
  have hts := mW_hts (atoms_spec (ws := (mW yX0_home cX0_home 2 (some .int))) B.pre)
  have hown : s.vm.findClass RX0 = some m.cls := findClass_of_methodNamed B.named
  have hlocks := B.notSynchronized
  subst hh
  have hA : ∀ (n : Nat) (q : Nat), s.heap.size ≤ n → n ≤ q → s.heap.size ≤ q := fun n q h1 h2 => Nat.le_trans h1 h2
  have hS : va_S ((fun q : Nat => s.heap.size ≤ q)) s.heap s.heap [] := va_S.rf
  have hA : ∀ q, s.heap.size ≤ q → ((fun q : Nat => s.heap.size ≤ q)) q := fun q h => h
  unfold S_X0_home at hs
  have hl := lv_entry ([.int a0, .int a1]) (n := 2) (Nat.le_of_ble_eq_true rfl)
  rw [lg_entry_eq]
  generalize (lg_sl ([.int a0, .int a1]) ++ List.replicate (2 - (lg_sl ([.int a0, .int a1])).length) Slot.unset).toArray = ls at hl ⊢
  have hl : lv_has ls 2 [(0, .int a0), (1, .int a1)] := hl
  refine W_gen (fun Q9 hQ9 => ?_)
  obtain ⟨t1, hZt1, hTt1⟩ := hC.2.2.1
  refine va_getsN hx hb hZt1 hS hown (va_Nw.use rfl hC.2.2.2.2.2.2.1.1) (fun _ h9 => h9) dX0_home_0 ?_
  refine lv_iload_n hx hb dX0_home_3 rfl (lv_at hl 0 rfl) ?_
  obtain ⟨h2, hs⟩ := hs
  refine va_ti hx hb hTt1 hS h2 (v := .int (gHOMES a0)) rfl dX0_home_4 ?_
  refine lv_iload_n hx hb dX0_home_5 rfl (lv_at hl 1 rfl) ?_
  obtain ⟨t3, hZt3, hTt3⟩ := hC.2.2.2.1
  refine va_getsN hx hb hZt3 hS hown (va_Nw.use rfl hC.2.2.2.2.2.2.1.2.1) (fun _ h9 => h9) dX0_home_6 ?_
  refine lv_iload_n hx hb dX0_home_9 rfl (lv_at hl 0 rfl) ?_
  obtain ⟨h4, hs⟩ := hs
  refine va_ti hx hb hTt3 hS h4 (v := .int (gWIDTHS a0)) rfl dX0_home_10 ?_
  refine lv_imul hx hb dX0_home_11 ?_
  refine lv_iadd hx hb dX0_home_12 ?_
  rw [hQ9]
  have hf : f_X0_home a0 a1 = ((gHOMES a0) + (a1 * (gWIDTHS a0))) := by simp only [f_X0_home]
  exact W.iret (v := ((gHOMES a0) + (a1 * (gWIDTHS a0)))) hx hb hr (fun t ht hW => ⟨⟨((gHOMES a0) + (a1 * (gWIDTHS a0))), (), rfl, by rw [hf], ht⟩, hS.F ht⟩) hS.2.2 dX0_home_13
theorem q_X0_home {p : Program} {l : Launch} {e : Env} {R : Room} {s : State} {m : MethodId} {args : Array Value} {below : List Frame} {meth : Method} {c : Code} {H : Heap} {locs : List Loc} {cells slots : Nat} {Q : State → Prop} {pc : Nat} {ls : Array Slot} {rest : List Value} {cc : ByteArray} {nL idx : Nat} {own : String} {A0 : Nat → Prop} (hx : p.tables.exec = Jvm.exec) (hb : c.code = cc) (hml : c.maxLocals = nL) (hown : s.vm.findClass own = some m.cls) (hts : ∀ w ∈ bigW, w.before args s = true) (hlk : Cond.methodLink own idx yX0_home ∈ bigW) (hR : 1 ≤ R.frames ∧ 21 ≤ R.locals) (hf : cells + 0 ≤ R.cells ∧ slots + 0 ≤ R.slots) (hz : ls.size = nL) (hw : (rest.map fun v => v.category).sum ≤ 8) (hS : va_S A0 s.heap H locs) (hd : decode cc pc = .ok (.invokestatic idx, 3)) (hA : ∀ q, s.heap.size ≤ q → A0 q) (hC : cxt A0 s s.heap) (a0 : Int32) (a1 : Int32) (hs : S_X0_home a0 a1) (k : ∀ locs, va_S A0 s.heap H locs → W p l e R s m args below meth c H locs cells slots Q (F0 m (pc + 3) ls (.int (f_X0_home a0 a1) :: rest))) : W p l e R s m args below meth c H locs cells slots Q (F0 m pc ls (.int a1 :: .int a0 :: rest)) :=
  va_calli (va_runS (As := [.int a0, .int a1]) (rest := rest) ⟨hx, hb, hml, hown, hts⟩ (c_X0_home l H a0 a1 hs) (kS 2 hts hlk mS_X0_home mN_RX0 mY_X0_home rfl rfl (by decide +kernel) hR) ⟨fun a U g mk q => ⟨q.1, q.2.1, q.2.2.call⟩, fun U hU hW => ⟨rfl, hU, hC.here hS hU hW (fun q h => hA q (Nat.le_trans hS.1 h))⟩⟩ rfl rfl hz rfl (lv_room hw) hd hf) hS (fun q h1 h2 => absurd h1 (Nat.not_lt.mpr h2)) (fun q h => hA q (Nat.le_trans hS.1 h)) (fun r u t H1 locs1 ht hvm hw9 hB hz1 hk1 hS1 => by
    have e : H1 = H := by rw [← ht]; exact hB
    subst e; subst hw9
    exact k locs1 hS1)

def f_X0_copyTo (a1 : Int32) (a2 : Int32) (Bc : Nat → Int64) (Md : Nat → Int64) : (Nat → Int64) := (va_cpy Bc Md (f_X0_home a1 a2).toNatClampNeg (0 : Int32).toNatClampNeg (gWIDTHS a1).toNatClampNeg)
def S_X0_copyTo (a1 : Int32) (a2 : Int32) (Bc : Nat → Int64) (Md : Nat → Int64) : Prop := (S_X0_home a1 a2) ∧ ((vp_in a1 5) ∧ ((¬ (f_X0_home a1 a2) < 0) ∧ ((¬ (0 : Int32) < 0) ∧ ((¬ (gWIDTHS a1) < 0) ∧ (((f_X0_home a1 a2).toNatClampNeg + (gWIDTHS a1).toNatClampNeg ≤ 928) ∧ (((0 : Int32).toNatClampNeg + (gWIDTHS a1).toNatClampNeg ≤ 21) ∧ (True)))))))
set_option maxHeartbeats 4000000 in
set_option maxRecDepth 100000 in
theorem c_X0_copyTo (l : Launch) (dC : Nat → ClassId) (dI : Nat → Nat → Nat) (cI cJ : ClassId) (ad : Nat → Nat) (hi : fI 23 ad) (sz : Nat) (Bc : Nat → Int64) (Bl : Nat → Int32) (Pk : Nat → Int32) (Pr : Nat → Int32) (Pl : Nat → Int32) (Pc : Nat → Int64) (Pm : Int32) (Gf : Nat → Int32) (Gt : Nat → Int32) (Gx : Nat → Int32) (Gd : Int32) (Gm : Int32) (Ek : Nat → Int32) (Er : Nat → Int32) (Ea : Nat → Int32) (Ex : Nat → Int32) (Em : Int32) (Eb : Int32) (Et : Int32) (Ss : Nat → Int32) (Sm : Int32) (Wg : Nat → Int64) (Wr : Nat → Int64) (Md : Nat → Int64) (a1 : Int32) (a2 : Int32) (hs : S_X0_copyTo a1 a2 Bc Md) : Met l yX0_copyTo (mW yX0_copyTo cX0_copyTo 4 none) { frames := 1, cells := 0, slots := 0, locals := 60 } (va_Pc [.ref (ad 1), .ref (ad 22), .int a1, .int a2] (fun U => U.heap.size = sz ∧ va_P (dC, dI) vwCl (wC ad cI cJ Bc Bl Pk Pr Pl Pc Pm Gf Gt Gx Gd Gm Ek Er Ea Ex Em Eb Et Ss Sm Wg Wr Md) U.heap ∧ va_K (dC, dI) vwCl [(cI, .int), (cJ, .long)] U ∧ cxt (fA 23 ad sz) U U.heap)) (va_Qv (fun (_ : Unit) => True) (fun _ t => va_P (dC, dI) vwCl (wC ad cI cJ Bc Bl Pk Pr Pl Pc Pm Gf Gt Gx Gd Gm Ek Er Ea Ex Em Eb Et Ss Sm Wg Wr (f_X0_copyTo a1 a2 Bc Md)) t.heap) (fA 23 ad sz)) 0 0 (fA 23 ad sz) := by
  refine Met.ofW (cc := cX0_copyTo) (maxL := 4) (ret := none) (by decide) rfl ?_
  intro p e s m args below meth c s₁ B hml hv
  obtain ⟨rfl, hsz, hP, hK, hC⟩ := hv
  have hx := B.exec
  have hb := B.bytes
  have hr := B.returns
  have hts := mW_hts (atoms_spec (ws := (mW yX0_copyTo cX0_copyTo 4 none)) B.pre)
  have hown : s.vm.findClass RX0 = some m.cls := findClass_of_methodNamed B.named
  have hlocks := B.notSynchronized
  subst hsz
  have hA : ∀ (n : Nat) (q : Nat), s.heap.size ≤ n → n ≤ q → fA 23 ad s.heap.size q := fun n q h1 h2 => Or.inr (Nat.le_trans h1 h2)
  have hS : va_S (fA 23 ad s.heap.size) s.heap s.heap [] := va_S.rf
  have hA : ∀ q, s.heap.size ≤ q → (fA 23 ad s.heap.size) q := fun q h => Or.inr h
  unfold S_X0_copyTo at hs
  have hl := lv_entry ([.ref (ad 1), .ref (ad 22), .int a1, .int a2]) (n := 4) (Nat.le_of_ble_eq_true rfl)
  rw [lg_entry_eq]
  generalize (lg_sl ([.ref (ad 1), .ref (ad 22), .int a1, .int a2]) ++ List.replicate (4 - (lg_sl ([.ref (ad 1), .ref (ad 22), .int a1, .int a2])).length) Slot.unset).toArray = ls at hl ⊢
  have hl : lv_has ls 4 [(0, .ref (ad 1)), (1, .ref (ad 22)), (2, .int a1), (3, .int a2)] := hl
  refine W_gen (fun Q9 hQ9 => ?_)
  refine lv_aload_n hx hb dX0_copyTo_0 rfl (lv_at hl 0 rfl) ?_
  refine va_get (D := (dC, dI)) (ci := 2) (v := .ref (ad 2)) (C := RX0) (T := TX0) (N := 2) hx hb hts iW_X0 hown hK hP 1 rfl rfl 0 (by decide) (hts _ mF_RX0_9) (fun _ h9 => h9) rfl dX0_copyTo_1 ?_
  refine lv_iload_n hx hb dX0_copyTo_4 rfl (lv_at hl 2 rfl) ?_
  refine lv_iload_n hx hb dX0_copyTo_5 rfl (lv_at hl 3 rfl) ?_
  obtain ⟨h1, hs⟩ := hs
  refine q_X0_home hx hb hml hown hts mM_RX0_19 ⟨Nat.le_of_ble_eq_true rfl, Nat.le_of_ble_eq_true rfl⟩ ⟨Nat.le_of_ble_eq_true rfl, Nat.le_of_ble_eq_true rfl⟩ hl.1 (Nat.le_of_ble_eq_true rfl) hS dX0_copyTo_6 hA hC a1 a2 h1 (fun locs hS => ?_)
  refine lv_aload_n hx hb dX0_copyTo_9 rfl (lv_at hl 1 rfl) ?_
  refine lv_iconst (v := 0) hx hb dX0_copyTo_10 (by decide) ?_
  obtain ⟨t2, hZt2, hTt2⟩ := hC.2.2.2.1
  refine va_getsN hx hb hZt2 hS hown (va_Nw.use rfl hC.2.2.2.2.2.2.1.2.1) (fun _ h9 => h9) dX0_copyTo_11 ?_
  refine lv_iload_n hx hb dX0_copyTo_14 rfl (lv_at hl 2 rfl) ?_
  obtain ⟨h3, hs⟩ := hs
  refine va_ti hx hb hTt2 hS h3 (v := .int (gWIDTHS a1)) rfl dX0_copyTo_15 ?_
  obtain ⟨h4, hs⟩ := hs
  obtain ⟨h5, hs⟩ := hs
  obtain ⟨h6, hs⟩ := hs
  obtain ⟨h7, hs⟩ := hs
  obtain ⟨h8, hs⟩ := hs
  refine va_copyl hx hb (by rw [hml]; exact hl.1.symm) hown (hts _ mM_RX0_31) (hts _ mcp1) (hts _ mcp2) (hts _ mcp3) hK hP (fA_D hi rfl) hS 2 22 1 1 rfl rfl rfl rfl rfl h4 h5 h6 h7 h8 (fun _ _ => rfl) (Nat.le_of_ble_eq_true rfl) (Nat.le_of_ble_eq_true rfl) dX0_copyTo_16 (fun H locs hP _ hS => ?_)
  have hP : va_P (dC, dI) vwCl (wC ad cI cJ Bc Bl Pk Pr Pl Pc Pm Gf Gt Gx Gd Gm Ek Er Ea Ex Em Eb Et Ss Sm Wg Wr (va_cpy Bc Md (f_X0_home a1 a2).toNatClampNeg (0 : Int32).toNatClampNeg (gWIDTHS a1).toNatClampNeg)) H := hP
  rw [hQ9]
  have hf : f_X0_copyTo a1 a2 Bc Md = (va_cpy Bc Md (f_X0_home a1 a2).toNatClampNeg (0 : Int32).toNatClampNeg (gWIDTHS a1).toNatClampNeg) := by simp only [f_X0_copyTo]
  exact W.vret hx hb hr (fun t ht hW => ⟨⟨(), rfl, True.intro, by rw [hf]; show va_P (dC, dI) vwCl _ t.heap; rw [ht]; exact hP⟩, hS.F ht⟩) hS.2.2 dX0_copyTo_19
theorem q_X0_copyTo {p : Program} {l : Launch} {e : Env} {R : Room} {s : State} {m : MethodId} {args : Array Value} {below : List Frame} {meth : Method} {c : Code} {H : Heap} {locs : List Loc} {cells slots : Nat} {Q : State → Prop} {pc : Nat} {ls : Array Slot} {rest : List Value} {cc : ByteArray} {nL idx : Nat} {own : String} {A0 : Nat → Prop} {dC : Nat → ClassId} {dI : Nat → Nat → Nat} {cI cJ : ClassId} {ad : Nat → Nat} {Bc : Nat → Int64} {Bl : Nat → Int32} {Pk : Nat → Int32} {Pr : Nat → Int32} {Pl : Nat → Int32} {Pc : Nat → Int64} {Pm : Int32} {Gf : Nat → Int32} {Gt : Nat → Int32} {Gx : Nat → Int32} {Gd : Int32} {Gm : Int32} {Ek : Nat → Int32} {Er : Nat → Int32} {Ea : Nat → Int32} {Ex : Nat → Int32} {Em : Int32} {Eb : Int32} {Et : Int32} {Ss : Nat → Int32} {Sm : Int32} {Wg : Nat → Int64} {Wr : Nat → Int64} {Md : Nat → Int64} (hx : p.tables.exec = Jvm.exec) (hb : c.code = cc) (hml : c.maxLocals = nL) (hown : s.vm.findClass own = some m.cls) (hts : ∀ w ∈ bigW, w.before args s = true) (hlk : Cond.methodLink own idx yX0_copyTo ∈ bigW) (hR : 2 ≤ R.frames ∧ 83 ≤ R.locals) (hf : cells + 0 ≤ R.cells ∧ slots + 0 ≤ R.slots) (hz : ls.size = nL) (hw : (rest.map fun v => v.category).sum ≤ 8) (hS : va_S A0 s.heap H locs) (hd : decode cc pc = .ok (.invokevirtual idx, 3)) (hA : ∀ q, fA 23 ad H.size q → A0 q) (hi : fI 23 ad) (hK : va_K (dC, dI) vwCl [(cI, .int), (cJ, .long)] s) (hP : va_P (dC, dI) vwCl (wC ad cI cJ Bc Bl Pk Pr Pl Pc Pm Gf Gt Gx Gd Gm Ek Er Ea Ex Em Eb Et Ss Sm Wg Wr Md) H) (hC : cxt A0 s s.heap) (a1 : Int32) (a2 : Int32) (hs : S_X0_copyTo a1 a2 Bc Md)  (u : (Nat → Int64)) (hu : u = f_X0_copyTo a1 a2 Bc Md) (k : ∀ (H1 : Heap) (locs1 : List Loc), va_P (dC, dI) vwCl (wC ad cI cJ Bc Bl Pk Pr Pl Pc Pm Gf Gt Gx Gd Gm Ek Er Ea Ex Em Eb Et Ss Sm Wg Wr u) H1 → va_S A0 s.heap H1 locs1 → W p l e R s m args below meth c H1 locs1 (cells + 0) (slots + 0) Q (F0 m (pc + 3) ls (rest))) : W p l e R s m args below meth c H locs cells slots Q (F0 m pc ls (.int a2 :: .int a1 :: .ref (ad 22) :: .ref (ad 1) :: rest)) := by
  subst hu
  exact va_callv (va_runV (As := [.ref (ad 22), .int a1, .int a2]) (rest := rest) ⟨hx, hb, hml, hown, hts⟩ (c_X0_copyTo l dC dI cI cJ ad hi H.size Bc Bl Pk Pr Pl Pc Pm Gf Gt Gx Gd Gm Ek Er Ea Ex Em Eb Et Ss Sm Wg Wr Md a1 a2 hs) (kV 3 hts hlk mI_X0_copyTo mN_RX0 mY_X0_copyTo mV_X0_copyTo rfl rfl (by decide +kernel) hR) ⟨fun a U g mk q => ⟨q.1, q.2.1, q.2.2.1, va_K.moved (u := U) (U := U.calling g mk a) (Vm.Alike.refl U.vm) q.2.2.2.1, q.2.2.2.2.call⟩, va_recv hK hP (ci := 2) (q0 := 1) rfl rfl, fun U hU hW => ⟨rfl, by rw [hU], by rw [hU]; exact hP, va_K.moved hW.alike hK, hC.here hS hU hW hA⟩⟩ rfl rfl hz rfl (lv_room hw) hd hf) hS (fun q _ h => hA q h) (fun q h => hA q h) (fun u t H1 locs1 ht hvm hw9 hB hz1 hk1 hS1 => by
    skip
    exact k H1 locs1 (by rw [← ht]; exact hB) hS1)

def f_X0_copyFromM (a1 : Int32) (a2 : Int32) (a3 : Int32) (Bc : Nat → Int64) (Md : Nat → Int64) : (Nat → Int64) := (va_cpy Md Bc a1.toNatClampNeg (f_X0_home a2 a3).toNatClampNeg (gWIDTHS a2).toNatClampNeg)
def S_X0_copyFromM (a1 : Int32) (a2 : Int32) (a3 : Int32) (Bc : Nat → Int64) (Md : Nat → Int64) : Prop := (S_X0_home a2 a3) ∧ ((vp_in a2 5) ∧ ((¬ a1 < 0) ∧ ((¬ (f_X0_home a2 a3) < 0) ∧ ((¬ (gWIDTHS a2) < 0) ∧ ((a1.toNatClampNeg + (gWIDTHS a2).toNatClampNeg ≤ 21) ∧ (((f_X0_home a2 a3).toNatClampNeg + (gWIDTHS a2).toNatClampNeg ≤ 928) ∧ (True)))))))
set_option maxHeartbeats 4000000 in
set_option maxRecDepth 100000 in
theorem c_X0_copyFromM (l : Launch) (dC : Nat → ClassId) (dI : Nat → Nat → Nat) (cI cJ : ClassId) (ad : Nat → Nat) (hi : fI 23 ad) (sz : Nat) (Bc : Nat → Int64) (Bl : Nat → Int32) (Pk : Nat → Int32) (Pr : Nat → Int32) (Pl : Nat → Int32) (Pc : Nat → Int64) (Pm : Int32) (Gf : Nat → Int32) (Gt : Nat → Int32) (Gx : Nat → Int32) (Gd : Int32) (Gm : Int32) (Ek : Nat → Int32) (Er : Nat → Int32) (Ea : Nat → Int32) (Ex : Nat → Int32) (Em : Int32) (Eb : Int32) (Et : Int32) (Ss : Nat → Int32) (Sm : Int32) (Wg : Nat → Int64) (Wr : Nat → Int64) (Md : Nat → Int64) (a1 : Int32) (a2 : Int32) (a3 : Int32) (hs : S_X0_copyFromM a1 a2 a3 Bc Md) : Met l yX0_copyFrom (mW yX0_copyFrom cX0_copyFrom 5 none) { frames := 1, cells := 0, slots := 0, locals := 60 } (va_Pc [.ref (ad 1), .ref (ad 22), .int a1, .int a2, .int a3] (fun U => U.heap.size = sz ∧ va_P (dC, dI) vwCl (wC ad cI cJ Bc Bl Pk Pr Pl Pc Pm Gf Gt Gx Gd Gm Ek Er Ea Ex Em Eb Et Ss Sm Wg Wr Md) U.heap ∧ va_K (dC, dI) vwCl [(cI, .int), (cJ, .long)] U ∧ cxt (fA 23 ad sz) U U.heap)) (va_Qv (fun (_ : Unit) => True) (fun _ t => va_P (dC, dI) vwCl (wC ad cI cJ (f_X0_copyFromM a1 a2 a3 Bc Md) Bl Pk Pr Pl Pc Pm Gf Gt Gx Gd Gm Ek Er Ea Ex Em Eb Et Ss Sm Wg Wr Md) t.heap) (fA 23 ad sz)) 0 0 (fA 23 ad sz) := by
  refine Met.ofW (cc := cX0_copyFrom) (maxL := 5) (ret := none) (by decide) rfl ?_
  intro p e s m args below meth c s₁ B hml hv
  obtain ⟨rfl, hsz, hP, hK, hC⟩ := hv
  have hx := B.exec
  have hb := B.bytes
  have hr := B.returns
  have hts := mW_hts (atoms_spec (ws := (mW yX0_copyFrom cX0_copyFrom 5 none)) B.pre)
  have hown : s.vm.findClass RX0 = some m.cls := findClass_of_methodNamed B.named
  have hlocks := B.notSynchronized
  subst hsz
  have hA : ∀ (n : Nat) (q : Nat), s.heap.size ≤ n → n ≤ q → fA 23 ad s.heap.size q := fun n q h1 h2 => Or.inr (Nat.le_trans h1 h2)
  have hS : va_S (fA 23 ad s.heap.size) s.heap s.heap [] := va_S.rf
  have hA : ∀ q, s.heap.size ≤ q → (fA 23 ad s.heap.size) q := fun q h => Or.inr h
  unfold S_X0_copyFromM at hs
  have hl := lv_entry ([.ref (ad 1), .ref (ad 22), .int a1, .int a2, .int a3]) (n := 5) (Nat.le_of_ble_eq_true rfl)
  rw [lg_entry_eq]
  generalize (lg_sl ([.ref (ad 1), .ref (ad 22), .int a1, .int a2, .int a3]) ++ List.replicate (5 - (lg_sl ([.ref (ad 1), .ref (ad 22), .int a1, .int a2, .int a3])).length) Slot.unset).toArray = ls at hl ⊢
  have hl : lv_has ls 5 [(0, .ref (ad 1)), (1, .ref (ad 22)), (2, .int a1), (3, .int a2), (4, .int a3)] := hl
  refine W_gen (fun Q9 hQ9 => ?_)
  refine lv_aload_n hx hb dX0_copyFrom_0 rfl (lv_at hl 1 rfl) ?_
  refine lv_iload_n hx hb dX0_copyFrom_1 rfl (lv_at hl 2 rfl) ?_
  refine lv_aload_n hx hb dX0_copyFrom_2 rfl (lv_at hl 0 rfl) ?_
  refine va_get (D := (dC, dI)) (ci := 2) (v := .ref (ad 2)) (C := RX0) (T := TX0) (N := 2) hx hb hts iW_X0 hown hK hP 1 rfl rfl 0 (by decide) (hts _ mF_RX0_9) (fun _ h9 => h9) rfl dX0_copyFrom_3 ?_
  refine lv_iload_n hx hb dX0_copyFrom_6 rfl (lv_at hl 3 rfl) ?_
  refine lv_iload hx hb dX0_copyFrom_7 (lv_at hl 4 rfl) ?_
  obtain ⟨h1, hs⟩ := hs
  refine q_X0_home hx hb hml hown hts mM_RX0_19 ⟨Nat.le_of_ble_eq_true rfl, Nat.le_of_ble_eq_true rfl⟩ ⟨Nat.le_of_ble_eq_true rfl, Nat.le_of_ble_eq_true rfl⟩ hl.1 (Nat.le_of_ble_eq_true rfl) hS dX0_copyFrom_9 hA hC a2 a3 h1 (fun locs hS => ?_)
  obtain ⟨t2, hZt2, hTt2⟩ := hC.2.2.2.1
  refine va_getsN hx hb hZt2 hS hown (va_Nw.use rfl hC.2.2.2.2.2.2.1.2.1) (fun _ h9 => h9) dX0_copyFrom_12 ?_
  refine lv_iload_n hx hb dX0_copyFrom_15 rfl (lv_at hl 3 rfl) ?_
  obtain ⟨h3, hs⟩ := hs
  refine va_ti hx hb hTt2 hS h3 (v := .int (gWIDTHS a2)) rfl dX0_copyFrom_16 ?_
  obtain ⟨h4, hs⟩ := hs
  obtain ⟨h5, hs⟩ := hs
  obtain ⟨h6, hs⟩ := hs
  obtain ⟨h7, hs⟩ := hs
  obtain ⟨h8, hs⟩ := hs
  refine va_copyl hx hb (by rw [hml]; exact hl.1.symm) hown (hts _ mM_RX0_31) (hts _ mcp1) (hts _ mcp2) (hts _ mcp3) hK hP (fA_D hi rfl) hS 22 2 1 1 rfl rfl rfl rfl rfl h4 h5 h6 h7 h8 (fun _ _ => rfl) (Nat.le_of_ble_eq_true rfl) (Nat.le_of_ble_eq_true rfl) dX0_copyFrom_17 (fun H locs hP _ hS => ?_)
  have hP : va_P (dC, dI) vwCl (wC ad cI cJ (va_cpy Md Bc a1.toNatClampNeg (f_X0_home a2 a3).toNatClampNeg (gWIDTHS a2).toNatClampNeg) Bl Pk Pr Pl Pc Pm Gf Gt Gx Gd Gm Ek Er Ea Ex Em Eb Et Ss Sm Wg Wr Md) H := hP
  rw [hQ9]
  have hf : f_X0_copyFromM a1 a2 a3 Bc Md = (va_cpy Md Bc a1.toNatClampNeg (f_X0_home a2 a3).toNatClampNeg (gWIDTHS a2).toNatClampNeg) := by simp only [f_X0_copyFromM]
  exact W.vret hx hb hr (fun t ht hW => ⟨⟨(), rfl, True.intro, by rw [hf]; show va_P (dC, dI) vwCl _ t.heap; rw [ht]; exact hP⟩, hS.F ht⟩) hS.2.2 dX0_copyFrom_20
theorem q_X0_copyFromM {p : Program} {l : Launch} {e : Env} {R : Room} {s : State} {m : MethodId} {args : Array Value} {below : List Frame} {meth : Method} {c : Code} {H : Heap} {locs : List Loc} {cells slots : Nat} {Q : State → Prop} {pc : Nat} {ls : Array Slot} {rest : List Value} {cc : ByteArray} {nL idx : Nat} {own : String} {A0 : Nat → Prop} {dC : Nat → ClassId} {dI : Nat → Nat → Nat} {cI cJ : ClassId} {ad : Nat → Nat} {Bc : Nat → Int64} {Bl : Nat → Int32} {Pk : Nat → Int32} {Pr : Nat → Int32} {Pl : Nat → Int32} {Pc : Nat → Int64} {Pm : Int32} {Gf : Nat → Int32} {Gt : Nat → Int32} {Gx : Nat → Int32} {Gd : Int32} {Gm : Int32} {Ek : Nat → Int32} {Er : Nat → Int32} {Ea : Nat → Int32} {Ex : Nat → Int32} {Em : Int32} {Eb : Int32} {Et : Int32} {Ss : Nat → Int32} {Sm : Int32} {Wg : Nat → Int64} {Wr : Nat → Int64} {Md : Nat → Int64} (hx : p.tables.exec = Jvm.exec) (hb : c.code = cc) (hml : c.maxLocals = nL) (hown : s.vm.findClass own = some m.cls) (hts : ∀ w ∈ bigW, w.before args s = true) (hlk : Cond.methodLink own idx yX0_copyFrom ∈ bigW) (hR : 2 ≤ R.frames ∧ 84 ≤ R.locals) (hf : cells + 0 ≤ R.cells ∧ slots + 0 ≤ R.slots) (hz : ls.size = nL) (hw : (rest.map fun v => v.category).sum ≤ 8) (hS : va_S A0 s.heap H locs) (hd : decode cc pc = .ok (.invokevirtual idx, 3)) (hA : ∀ q, fA 23 ad H.size q → A0 q) (hi : fI 23 ad) (hK : va_K (dC, dI) vwCl [(cI, .int), (cJ, .long)] s) (hP : va_P (dC, dI) vwCl (wC ad cI cJ Bc Bl Pk Pr Pl Pc Pm Gf Gt Gx Gd Gm Ek Er Ea Ex Em Eb Et Ss Sm Wg Wr Md) H) (hC : cxt A0 s s.heap) (a1 : Int32) (a2 : Int32) (a3 : Int32) (hs : S_X0_copyFromM a1 a2 a3 Bc Md)  (u : (Nat → Int64)) (hu : u = f_X0_copyFromM a1 a2 a3 Bc Md) (k : ∀ (H1 : Heap) (locs1 : List Loc), va_P (dC, dI) vwCl (wC ad cI cJ u Bl Pk Pr Pl Pc Pm Gf Gt Gx Gd Gm Ek Er Ea Ex Em Eb Et Ss Sm Wg Wr Md) H1 → va_S A0 s.heap H1 locs1 → W p l e R s m args below meth c H1 locs1 (cells + 0) (slots + 0) Q (F0 m (pc + 3) ls (rest))) : W p l e R s m args below meth c H locs cells slots Q (F0 m pc ls (.int a3 :: .int a2 :: .int a1 :: .ref (ad 22) :: .ref (ad 1) :: rest)) := by
  subst hu
  exact va_callv (va_runV (As := [.ref (ad 22), .int a1, .int a2, .int a3]) (rest := rest) ⟨hx, hb, hml, hown, hts⟩ (c_X0_copyFromM l dC dI cI cJ ad hi H.size Bc Bl Pk Pr Pl Pc Pm Gf Gt Gx Gd Gm Ek Er Ea Ex Em Eb Et Ss Sm Wg Wr Md a1 a2 a3 hs) (kV 4 hts hlk mI_X0_copyFrom mN_RX0 mY_X0_copyFrom mV_X0_copyFrom rfl rfl (by decide +kernel) hR) ⟨fun a U g mk q => ⟨q.1, q.2.1, q.2.2.1, va_K.moved (u := U) (U := U.calling g mk a) (Vm.Alike.refl U.vm) q.2.2.2.1, q.2.2.2.2.call⟩, va_recv hK hP (ci := 2) (q0 := 1) rfl rfl, fun U hU hW => ⟨rfl, by rw [hU], by rw [hU]; exact hP, va_K.moved hW.alike hK, hC.here hS hU hW hA⟩⟩ rfl rfl hz rfl (lv_room hw) hd hf) hS (fun q _ h => hA q h) (fun q h => hA q h) (fun u t H1 locs1 ht hvm hw9 hB hz1 hk1 hS1 => by
    skip
    exact k H1 locs1 (by rw [← ht]; exact hB) hS1)

def f_X0_copyFromP (a1 : Int32) (a2 : Int32) (a3 : Int32) (Bc : Nat → Int64) (Pc : Nat → Int64) : (Nat → Int64) := (va_cpy Pc Bc a1.toNatClampNeg (f_X0_home a2 a3).toNatClampNeg (gWIDTHS a2).toNatClampNeg)
def S_X0_copyFromP (a1 : Int32) (a2 : Int32) (a3 : Int32) (Bc : Nat → Int64) (Pc : Nat → Int64) : Prop := (S_X0_home a2 a3) ∧ ((vp_in a2 5) ∧ ((¬ a1 < 0) ∧ ((¬ (f_X0_home a2 a3) < 0) ∧ ((¬ (gWIDTHS a2) < 0) ∧ ((a1.toNatClampNeg + (gWIDTHS a2).toNatClampNeg ≤ 4200) ∧ (((f_X0_home a2 a3).toNatClampNeg + (gWIDTHS a2).toNatClampNeg ≤ 928) ∧ (True)))))))
set_option maxHeartbeats 4000000 in
set_option maxRecDepth 100000 in
theorem c_X0_copyFromP (l : Launch) (dC : Nat → ClassId) (dI : Nat → Nat → Nat) (cI cJ : ClassId) (ad : Nat → Nat) (hi : fI 23 ad) (sz : Nat) (Bc : Nat → Int64) (Bl : Nat → Int32) (Pk : Nat → Int32) (Pr : Nat → Int32) (Pl : Nat → Int32) (Pc : Nat → Int64) (Pm : Int32) (Gf : Nat → Int32) (Gt : Nat → Int32) (Gx : Nat → Int32) (Gd : Int32) (Gm : Int32) (Ek : Nat → Int32) (Er : Nat → Int32) (Ea : Nat → Int32) (Ex : Nat → Int32) (Em : Int32) (Eb : Int32) (Et : Int32) (Ss : Nat → Int32) (Sm : Int32) (Wg : Nat → Int64) (Wr : Nat → Int64) (Md : Nat → Int64) (a1 : Int32) (a2 : Int32) (a3 : Int32) (hs : S_X0_copyFromP a1 a2 a3 Bc Pc) : Met l yX0_copyFrom (mW yX0_copyFrom cX0_copyFrom 5 none) { frames := 1, cells := 0, slots := 0, locals := 60 } (va_Pc [.ref (ad 1), .ref (ad 8), .int a1, .int a2, .int a3] (fun U => U.heap.size = sz ∧ va_P (dC, dI) vwCl (wC ad cI cJ Bc Bl Pk Pr Pl Pc Pm Gf Gt Gx Gd Gm Ek Er Ea Ex Em Eb Et Ss Sm Wg Wr Md) U.heap ∧ va_K (dC, dI) vwCl [(cI, .int), (cJ, .long)] U ∧ cxt (fA 23 ad sz) U U.heap)) (va_Qv (fun (_ : Unit) => True) (fun _ t => va_P (dC, dI) vwCl (wC ad cI cJ (f_X0_copyFromP a1 a2 a3 Bc Pc) Bl Pk Pr Pl Pc Pm Gf Gt Gx Gd Gm Ek Er Ea Ex Em Eb Et Ss Sm Wg Wr Md) t.heap) (fA 23 ad sz)) 0 0 (fA 23 ad sz) := by
  refine Met.ofW (cc := cX0_copyFrom) (maxL := 5) (ret := none) (by decide) rfl ?_
  intro p e s m args below meth c s₁ B hml hv
  obtain ⟨rfl, hsz, hP, hK, hC⟩ := hv
  have hx := B.exec
  have hb := B.bytes
  have hr := B.returns
  have hts := mW_hts (atoms_spec (ws := (mW yX0_copyFrom cX0_copyFrom 5 none)) B.pre)
  have hown : s.vm.findClass RX0 = some m.cls := findClass_of_methodNamed B.named
  have hlocks := B.notSynchronized
  subst hsz
  have hA : ∀ (n : Nat) (q : Nat), s.heap.size ≤ n → n ≤ q → fA 23 ad s.heap.size q := fun n q h1 h2 => Or.inr (Nat.le_trans h1 h2)
  have hS : va_S (fA 23 ad s.heap.size) s.heap s.heap [] := va_S.rf
  have hA : ∀ q, s.heap.size ≤ q → (fA 23 ad s.heap.size) q := fun q h => Or.inr h
  unfold S_X0_copyFromP at hs
  have hl := lv_entry ([.ref (ad 1), .ref (ad 8), .int a1, .int a2, .int a3]) (n := 5) (Nat.le_of_ble_eq_true rfl)
  rw [lg_entry_eq]
  generalize (lg_sl ([.ref (ad 1), .ref (ad 8), .int a1, .int a2, .int a3]) ++ List.replicate (5 - (lg_sl ([.ref (ad 1), .ref (ad 8), .int a1, .int a2, .int a3])).length) Slot.unset).toArray = ls at hl ⊢
  have hl : lv_has ls 5 [(0, .ref (ad 1)), (1, .ref (ad 8)), (2, .int a1), (3, .int a2), (4, .int a3)] := hl
  refine W_gen (fun Q9 hQ9 => ?_)
  refine lv_aload_n hx hb dX0_copyFrom_0 rfl (lv_at hl 1 rfl) ?_
  refine lv_iload_n hx hb dX0_copyFrom_1 rfl (lv_at hl 2 rfl) ?_
  refine lv_aload_n hx hb dX0_copyFrom_2 rfl (lv_at hl 0 rfl) ?_
  refine va_get (D := (dC, dI)) (ci := 2) (v := .ref (ad 2)) (C := RX0) (T := TX0) (N := 2) hx hb hts iW_X0 hown hK hP 1 rfl rfl 0 (by decide) (hts _ mF_RX0_9) (fun _ h9 => h9) rfl dX0_copyFrom_3 ?_
  refine lv_iload_n hx hb dX0_copyFrom_6 rfl (lv_at hl 3 rfl) ?_
  refine lv_iload hx hb dX0_copyFrom_7 (lv_at hl 4 rfl) ?_
  obtain ⟨h1, hs⟩ := hs
  refine q_X0_home hx hb hml hown hts mM_RX0_19 ⟨Nat.le_of_ble_eq_true rfl, Nat.le_of_ble_eq_true rfl⟩ ⟨Nat.le_of_ble_eq_true rfl, Nat.le_of_ble_eq_true rfl⟩ hl.1 (Nat.le_of_ble_eq_true rfl) hS dX0_copyFrom_9 hA hC a2 a3 h1 (fun locs hS => ?_)
  obtain ⟨t2, hZt2, hTt2⟩ := hC.2.2.2.1
  refine va_getsN hx hb hZt2 hS hown (va_Nw.use rfl hC.2.2.2.2.2.2.1.2.1) (fun _ h9 => h9) dX0_copyFrom_12 ?_
  refine lv_iload_n hx hb dX0_copyFrom_15 rfl (lv_at hl 3 rfl) ?_
  obtain ⟨h3, hs⟩ := hs
  refine va_ti hx hb hTt2 hS h3 (v := .int (gWIDTHS a2)) rfl dX0_copyFrom_16 ?_
  obtain ⟨h4, hs⟩ := hs
  obtain ⟨h5, hs⟩ := hs
  obtain ⟨h6, hs⟩ := hs
  obtain ⟨h7, hs⟩ := hs
  obtain ⟨h8, hs⟩ := hs
  refine va_copyl hx hb (by rw [hml]; exact hl.1.symm) hown (hts _ mM_RX0_31) (hts _ mcp1) (hts _ mcp2) (hts _ mcp3) hK hP (fA_D hi rfl) hS 8 2 1 1 rfl rfl rfl rfl rfl h4 h5 h6 h7 h8 (fun _ _ => rfl) (Nat.le_of_ble_eq_true rfl) (Nat.le_of_ble_eq_true rfl) dX0_copyFrom_17 (fun H locs hP _ hS => ?_)
  have hP : va_P (dC, dI) vwCl (wC ad cI cJ (va_cpy Pc Bc a1.toNatClampNeg (f_X0_home a2 a3).toNatClampNeg (gWIDTHS a2).toNatClampNeg) Bl Pk Pr Pl Pc Pm Gf Gt Gx Gd Gm Ek Er Ea Ex Em Eb Et Ss Sm Wg Wr Md) H := hP
  rw [hQ9]
  have hf : f_X0_copyFromP a1 a2 a3 Bc Pc = (va_cpy Pc Bc a1.toNatClampNeg (f_X0_home a2 a3).toNatClampNeg (gWIDTHS a2).toNatClampNeg) := by simp only [f_X0_copyFromP]
  exact W.vret hx hb hr (fun t ht hW => ⟨⟨(), rfl, True.intro, by rw [hf]; show va_P (dC, dI) vwCl _ t.heap; rw [ht]; exact hP⟩, hS.F ht⟩) hS.2.2 dX0_copyFrom_20
theorem q_X0_copyFromP {p : Program} {l : Launch} {e : Env} {R : Room} {s : State} {m : MethodId} {args : Array Value} {below : List Frame} {meth : Method} {c : Code} {H : Heap} {locs : List Loc} {cells slots : Nat} {Q : State → Prop} {pc : Nat} {ls : Array Slot} {rest : List Value} {cc : ByteArray} {nL idx : Nat} {own : String} {A0 : Nat → Prop} {dC : Nat → ClassId} {dI : Nat → Nat → Nat} {cI cJ : ClassId} {ad : Nat → Nat} {Bc : Nat → Int64} {Bl : Nat → Int32} {Pk : Nat → Int32} {Pr : Nat → Int32} {Pl : Nat → Int32} {Pc : Nat → Int64} {Pm : Int32} {Gf : Nat → Int32} {Gt : Nat → Int32} {Gx : Nat → Int32} {Gd : Int32} {Gm : Int32} {Ek : Nat → Int32} {Er : Nat → Int32} {Ea : Nat → Int32} {Ex : Nat → Int32} {Em : Int32} {Eb : Int32} {Et : Int32} {Ss : Nat → Int32} {Sm : Int32} {Wg : Nat → Int64} {Wr : Nat → Int64} {Md : Nat → Int64} (hx : p.tables.exec = Jvm.exec) (hb : c.code = cc) (hml : c.maxLocals = nL) (hown : s.vm.findClass own = some m.cls) (hts : ∀ w ∈ bigW, w.before args s = true) (hlk : Cond.methodLink own idx yX0_copyFrom ∈ bigW) (hR : 2 ≤ R.frames ∧ 84 ≤ R.locals) (hf : cells + 0 ≤ R.cells ∧ slots + 0 ≤ R.slots) (hz : ls.size = nL) (hw : (rest.map fun v => v.category).sum ≤ 8) (hS : va_S A0 s.heap H locs) (hd : decode cc pc = .ok (.invokevirtual idx, 3)) (hA : ∀ q, fA 23 ad H.size q → A0 q) (hi : fI 23 ad) (hK : va_K (dC, dI) vwCl [(cI, .int), (cJ, .long)] s) (hP : va_P (dC, dI) vwCl (wC ad cI cJ Bc Bl Pk Pr Pl Pc Pm Gf Gt Gx Gd Gm Ek Er Ea Ex Em Eb Et Ss Sm Wg Wr Md) H) (hC : cxt A0 s s.heap) (a1 : Int32) (a2 : Int32) (a3 : Int32) (hs : S_X0_copyFromP a1 a2 a3 Bc Pc)  (u : (Nat → Int64)) (hu : u = f_X0_copyFromP a1 a2 a3 Bc Pc) (k : ∀ (H1 : Heap) (locs1 : List Loc), va_P (dC, dI) vwCl (wC ad cI cJ u Bl Pk Pr Pl Pc Pm Gf Gt Gx Gd Gm Ek Er Ea Ex Em Eb Et Ss Sm Wg Wr Md) H1 → va_S A0 s.heap H1 locs1 → W p l e R s m args below meth c H1 locs1 (cells + 0) (slots + 0) Q (F0 m (pc + 3) ls (rest))) : W p l e R s m args below meth c H locs cells slots Q (F0 m pc ls (.int a3 :: .int a2 :: .int a1 :: .ref (ad 8) :: .ref (ad 1) :: rest)) := by
  subst hu
  exact va_callv (va_runV (As := [.ref (ad 8), .int a1, .int a2, .int a3]) (rest := rest) ⟨hx, hb, hml, hown, hts⟩ (c_X0_copyFromP l dC dI cI cJ ad hi H.size Bc Bl Pk Pr Pl Pc Pm Gf Gt Gx Gd Gm Ek Er Ea Ex Em Eb Et Ss Sm Wg Wr Md a1 a2 a3 hs) (kV 4 hts hlk mI_X0_copyFrom mN_RX0 mY_X0_copyFrom mV_X0_copyFrom rfl rfl (by decide +kernel) hR) ⟨fun a U g mk q => ⟨q.1, q.2.1, q.2.2.1, va_K.moved (u := U) (U := U.calling g mk a) (Vm.Alike.refl U.vm) q.2.2.2.1, q.2.2.2.2.call⟩, va_recv hK hP (ci := 2) (q0 := 1) rfl rfl, fun U hU hW => ⟨rfl, by rw [hU], by rw [hU]; exact hP, va_K.moved hW.alike hK, hC.here hS hU hW hA⟩⟩ rfl rfl hz rfl (lv_room hw) hd hf) hS (fun q _ h => hA q h) (fun q h => hA q h) (fun u t H1 locs1 ht hvm hw9 hB hz1 hk1 hS1 => by
    skip
    exact k H1 locs1 (by rw [← ht]; exact hB) hS1)

theorem nb_within (v a b : Int64) : narrow .boolean (.int (f_X5_within v a b)) = .int (f_X5_within v a b) := by unfold f_X5_within; exact nb_if rfl (nb_if rfl rfl)

def f_X5_isCount (a0 : Int64) : Int32 := (f_X5_within a0 (-2147483647 : Int64) (2147483647 : Int64))
set_option maxHeartbeats 4000000 in
set_option maxRecDepth 100000 in
theorem c_X5_isCount (l : Launch) (hp : Heap) (a0 : Int64) : Met l yX5_isCount (mW yX5_isCount cX5_isCount 2 (some .boolean)) { frames := 1, cells := 0, slots := 0, locals := 25 } (va_Pc [.long a0] (fun U => U.heap = hp)) (va_Qi (fun (r : Int32) (_ : Unit) => r = f_X5_isCount a0) (fun _ t => t.heap = hp) (fun q : Nat => hp.size ≤ q)) 0 0 (fun q : Nat => hp.size ≤ q) := by
  refine Met.ofW (cc := cX5_isCount) (maxL := 2) (ret := (some .boolean)) (by decide) rfl ?_
  intro p e s m args below meth c s₁ B hml hv
  obtain ⟨rfl, hh⟩ := hv
  have hx := B.exec
  have hb := B.bytes
  have hr := B.returns
  have hts := mW_hts (atoms_spec (ws := (mW yX5_isCount cX5_isCount 2 (some .boolean))) B.pre)
  have hown : s.vm.findClass RX5 = some m.cls := findClass_of_methodNamed B.named
  have hlocks := B.notSynchronized
  subst hh
  have hA : ∀ (n : Nat) (q : Nat), s.heap.size ≤ n → n ≤ q → s.heap.size ≤ q := fun n q h1 h2 => Nat.le_trans h1 h2
  have hS : va_S ((fun q : Nat => s.heap.size ≤ q)) s.heap s.heap [] := va_S.rf
  have hA : ∀ q, s.heap.size ≤ q → ((fun q : Nat => s.heap.size ≤ q)) q := fun q h => h
  have hl := lv_entry ([.long a0]) (n := 2) (Nat.le_of_ble_eq_true rfl)
  rw [lg_entry_eq]
  generalize (lg_sl ([.long a0]) ++ List.replicate (2 - (lg_sl ([.long a0])).length) Slot.unset).toArray = ls at hl ⊢
  have hl : lv_has ls 2 [(0, .long a0)] := hl
  refine W_gen (fun Q9 hQ9 => ?_)
  refine lv_lload_n hx hb dX5_isCount_0 rfl (lv_at hl 0 rfl) ?_
  refine lv_ldc2 hx hb hown (hts _ mK_RX5_252) dX5_isCount_1 ?_
  refine lv_ldc2 hx hb hown (hts _ mK_RX5_254) dX5_isCount_4 ?_
  refine q_X5_within hx hb hml hown hts mM_RX5_71 ⟨Nat.le_of_ble_eq_true rfl, Nat.le_of_ble_eq_true rfl⟩ ⟨Nat.le_of_ble_eq_true rfl, Nat.le_of_ble_eq_true rfl⟩ hl.1 (Nat.le_of_ble_eq_true rfl) hS dX5_isCount_7 hA a0 (-2147483647 : Int64) (2147483647 : Int64) (fun locs hS => ?_)
  rw [hQ9]
  have hf : f_X5_isCount a0 = (f_X5_within a0 (-2147483647 : Int64) (2147483647 : Int64)) := by simp only [f_X5_isCount]
  exact W.zret (v := (f_X5_within a0 (-2147483647 : Int64) (2147483647 : Int64))) (ty := .boolean) hx hb hr (nb_within _ _ _) (fun t ht hW => ⟨⟨(f_X5_within a0 (-2147483647 : Int64) (2147483647 : Int64)), (), rfl, by rw [hf], ht⟩, hS.F ht⟩) hS.2.2 dX5_isCount_10
theorem q_X5_isCount {p : Program} {l : Launch} {e : Env} {R : Room} {s : State} {m : MethodId} {args : Array Value} {below : List Frame} {meth : Method} {c : Code} {H : Heap} {locs : List Loc} {cells slots : Nat} {Q : State → Prop} {pc : Nat} {ls : Array Slot} {rest : List Value} {cc : ByteArray} {nL idx : Nat} {own : String} {A0 : Nat → Prop} (hx : p.tables.exec = Jvm.exec) (hb : c.code = cc) (hml : c.maxLocals = nL) (hown : s.vm.findClass own = some m.cls) (hts : ∀ w ∈ bigW, w.before args s = true) (hlk : Cond.methodLink own idx yX5_isCount ∈ bigW) (hR : 2 ≤ R.frames ∧ 46 ≤ R.locals) (hf : cells + 0 ≤ R.cells ∧ slots + 0 ≤ R.slots) (hz : ls.size = nL) (hw : (rest.map fun v => v.category).sum ≤ 8) (hS : va_S A0 s.heap H locs) (hd : decode cc pc = .ok (.invokestatic idx, 3)) (hA : ∀ q, s.heap.size ≤ q → A0 q) (a0 : Int64) (k : ∀ locs, va_S A0 s.heap H locs → W p l e R s m args below meth c H locs cells slots Q (F0 m (pc + 3) ls (.int (f_X5_isCount a0) :: rest))) : W p l e R s m args below meth c H locs cells slots Q (F0 m pc ls (.long a0 :: rest)) :=
  va_calli (va_runS (As := [.long a0]) (rest := rest) ⟨hx, hb, hml, hown, hts⟩ (c_X5_isCount l H a0) (kS 1 hts hlk mS_X5_isCount mN_RX5 mY_X5_isCount rfl rfl (by decide +kernel) hR) ⟨fun a U g mk q => q, fun U hU hW => ⟨rfl, hU⟩⟩ rfl rfl hz rfl (lv_room hw) hd hf) hS (fun q h1 h2 => absurd h1 (Nat.not_lt.mpr h2)) (fun q h => hA q (Nat.le_trans hS.1 h)) (fun r u t H1 locs1 ht hvm hw9 hB hz1 hk1 hS1 => by
    have e : H1 = H := by rw [← ht]; exact hB
    subst e; subst hw9
    exact k locs1 hS1)

def f_X5_isLength (a0 : Int64) : Int32 := (f_X5_within a0 (-1073741823 : Int64) (1073741823 : Int64))
set_option maxHeartbeats 4000000 in
set_option maxRecDepth 100000 in
theorem c_X5_isLength (l : Launch) (hp : Heap) (a0 : Int64) : Met l yX5_isLength (mW yX5_isLength cX5_isLength 2 (some .boolean)) { frames := 1, cells := 0, slots := 0, locals := 25 } (va_Pc [.long a0] (fun U => U.heap = hp)) (va_Qi (fun (r : Int32) (_ : Unit) => r = f_X5_isLength a0) (fun _ t => t.heap = hp) (fun q : Nat => hp.size ≤ q)) 0 0 (fun q : Nat => hp.size ≤ q) := by
  refine Met.ofW (cc := cX5_isLength) (maxL := 2) (ret := (some .boolean)) (by decide) rfl ?_
  intro p e s m args below meth c s₁ B hml hv
  obtain ⟨rfl, hh⟩ := hv
  have hx := B.exec
  have hb := B.bytes
  have hr := B.returns
  have hts := mW_hts (atoms_spec (ws := (mW yX5_isLength cX5_isLength 2 (some .boolean))) B.pre)
  have hown : s.vm.findClass RX5 = some m.cls := findClass_of_methodNamed B.named
  have hlocks := B.notSynchronized
  subst hh
  have hA : ∀ (n : Nat) (q : Nat), s.heap.size ≤ n → n ≤ q → s.heap.size ≤ q := fun n q h1 h2 => Nat.le_trans h1 h2
  have hS : va_S ((fun q : Nat => s.heap.size ≤ q)) s.heap s.heap [] := va_S.rf
  have hA : ∀ q, s.heap.size ≤ q → ((fun q : Nat => s.heap.size ≤ q)) q := fun q h => h
  have hl := lv_entry ([.long a0]) (n := 2) (Nat.le_of_ble_eq_true rfl)
  rw [lg_entry_eq]
  generalize (lg_sl ([.long a0]) ++ List.replicate (2 - (lg_sl ([.long a0])).length) Slot.unset).toArray = ls at hl ⊢
  have hl : lv_has ls 2 [(0, .long a0)] := hl
  refine W_gen (fun Q9 hQ9 => ?_)
  refine lv_lload_n hx hb dX5_isLength_0 rfl (lv_at hl 0 rfl) ?_
  refine lv_ldc2 hx hb hown (hts _ mK_RX5_256) dX5_isLength_1 ?_
  refine lv_ldc2 hx hb hown (hts _ mK_RX5_204) dX5_isLength_4 ?_
  refine q_X5_within hx hb hml hown hts mM_RX5_71 ⟨Nat.le_of_ble_eq_true rfl, Nat.le_of_ble_eq_true rfl⟩ ⟨Nat.le_of_ble_eq_true rfl, Nat.le_of_ble_eq_true rfl⟩ hl.1 (Nat.le_of_ble_eq_true rfl) hS dX5_isLength_7 hA a0 (-1073741823 : Int64) (1073741823 : Int64) (fun locs hS => ?_)
  rw [hQ9]
  have hf : f_X5_isLength a0 = (f_X5_within a0 (-1073741823 : Int64) (1073741823 : Int64)) := by simp only [f_X5_isLength]
  exact W.zret (v := (f_X5_within a0 (-1073741823 : Int64) (1073741823 : Int64))) (ty := .boolean) hx hb hr (nb_within _ _ _) (fun t ht hW => ⟨⟨(f_X5_within a0 (-1073741823 : Int64) (1073741823 : Int64)), (), rfl, by rw [hf], ht⟩, hS.F ht⟩) hS.2.2 dX5_isLength_10
theorem q_X5_isLength {p : Program} {l : Launch} {e : Env} {R : Room} {s : State} {m : MethodId} {args : Array Value} {below : List Frame} {meth : Method} {c : Code} {H : Heap} {locs : List Loc} {cells slots : Nat} {Q : State → Prop} {pc : Nat} {ls : Array Slot} {rest : List Value} {cc : ByteArray} {nL idx : Nat} {own : String} {A0 : Nat → Prop} (hx : p.tables.exec = Jvm.exec) (hb : c.code = cc) (hml : c.maxLocals = nL) (hown : s.vm.findClass own = some m.cls) (hts : ∀ w ∈ bigW, w.before args s = true) (hlk : Cond.methodLink own idx yX5_isLength ∈ bigW) (hR : 2 ≤ R.frames ∧ 46 ≤ R.locals) (hf : cells + 0 ≤ R.cells ∧ slots + 0 ≤ R.slots) (hz : ls.size = nL) (hw : (rest.map fun v => v.category).sum ≤ 8) (hS : va_S A0 s.heap H locs) (hd : decode cc pc = .ok (.invokestatic idx, 3)) (hA : ∀ q, s.heap.size ≤ q → A0 q) (a0 : Int64) (k : ∀ locs, va_S A0 s.heap H locs → W p l e R s m args below meth c H locs cells slots Q (F0 m (pc + 3) ls (.int (f_X5_isLength a0) :: rest))) : W p l e R s m args below meth c H locs cells slots Q (F0 m pc ls (.long a0 :: rest)) :=
  va_calli (va_runS (As := [.long a0]) (rest := rest) ⟨hx, hb, hml, hown, hts⟩ (c_X5_isLength l H a0) (kS 1 hts hlk mS_X5_isLength mN_RX5 mY_X5_isLength rfl rfl (by decide +kernel) hR) ⟨fun a U g mk q => q, fun U hU hW => ⟨rfl, hU⟩⟩ rfl rfl hz rfl (lv_room hw) hd hf) hS (fun q h1 h2 => absurd h1 (Nat.not_lt.mpr h2)) (fun q h => hA q (Nat.le_trans hS.1 h)) (fun r u t H1 locs1 ht hvm hw9 hB hz1 hk1 hS1 => by
    have e : H1 = H := by rw [← ht]; exact hB
    subst e; subst hw9
    exact k locs1 hS1)

def f_X5_checkRegister (a0 : Int64) : Nat := (if (f_X5_within a0 (0 : Int64) (31 : Int64)) = 0 then 2 else 0)
set_option maxHeartbeats 4000000 in
set_option maxRecDepth 100000 in
theorem c_X5_checkRegister (l : Launch) (hst : l.stackTraces = false) (hp : Heap) (a0 : Int64) : vx_Met l yX5_checkRegister (mW yX5_checkRegister cX5_checkRegister 2 none) { frames := 6, cells := 1, slots := 6, locals := 92 } (va_Pc [.long a0] (fun U => U.heap = hp ∧ cxt (fun q : Nat => hp.size ≤ q) U U.heap)) (va_Qv (fun (_ : Unit) => f_X5_checkRegister a0 = 0) (fun _ t => t.heap = hp) (fun q : Nat => hp.size ≤ q)) (vx_X (fun _ : Unit => ¬ f_X5_checkRegister a0 = 0) (fun E _ t => E = exN (f_X5_checkRegister a0) ∧ True) (fun q : Nat => hp.size ≤ q)) 1 6 (fun q : Nat => hp.size ≤ q) := by
  refine vx_ofW (cc := cX5_checkRegister) (maxL := 2) (ret := none) (by decide) rfl ?_
  intro p e s m args below meth c s₁ B hml ht hv
  obtain ⟨rfl, hh, hC⟩ := hv
  have hx := B.exec
  have hb := B.bytes
  have hr := B.returns
  have hts := mW_hts (atoms_spec (ws := (mW yX5_checkRegister cX5_checkRegister 2 none)) B.pre)
  have hown : s.vm.findClass RX5 = some m.cls := findClass_of_methodNamed B.named
  have hlocks := B.notSynchronized
  subst hh
  have hA : ∀ (n : Nat) (q : Nat), s.heap.size ≤ n → n ≤ q → s.heap.size ≤ q := fun n q h1 h2 => Nat.le_trans h1 h2
  have hS : va_S ((fun q : Nat => s.heap.size ≤ q)) s.heap s.heap [] := va_S.rf
  have hA : ∀ q, s.heap.size ≤ q → ((fun q : Nat => s.heap.size ≤ q)) q := fun q h => h
  have hl := lv_entry ([.long a0]) (n := 2) (Nat.le_of_ble_eq_true rfl)
  rw [lg_entry_eq]
  generalize (lg_sl ([.long a0]) ++ List.replicate (2 - (lg_sl ([.long a0])).length) Slot.unset).toArray = ls at hl ⊢
  have hl : lv_has ls 2 [(0, .long a0)] := hl
  refine W_gen (fun Q9 hQ9 => ?_)
  refine lv_lload_n hx hb dX5_checkRegister_0 rfl (lv_at hl 0 rfl) ?_
  refine lv_lconst (v := 0) hx hb dX5_checkRegister_1 (by decide) ?_
  refine lv_ldc2 hx hb hown (hts _ mK_RX5_260) dX5_checkRegister_2 ?_
  refine q_X5_within hx hb hml hown hts mM_RX5_71 ⟨Nat.le_of_ble_eq_true rfl, Nat.le_of_ble_eq_true rfl⟩ ⟨Nat.le_of_ble_eq_true rfl, Nat.le_of_ble_eq_true rfl⟩ hl.1 (Nat.le_of_ble_eq_true rfl) hS dX5_checkRegister_5 hA a0 (0 : Int64) (31 : Int64) (fun locs hS => ?_)
  refine lv_if_ne (tgt := 22) hx hb dX5_checkRegister_8 (by decide) (fun c1 => ?_) (fun c1 => ?_)
  · rw [hQ9]
    have hf : f_X5_checkRegister a0 = 0 := by simp only [f_X5_checkRegister, if_neg c1]
    refine vx_ret ?_
    refine W.widen (k := 1) (n := 6) (Nat.le_of_ble_eq_true rfl) (Nat.le_of_ble_eq_true rfl) ?_
    exact W.vret hx hb hr (fun t ht hW => ⟨⟨(), rfl, by rw [hf], ht⟩, hS.F ht⟩) hS.2.2 dX5_checkRegister_22
  · rw [hQ9]
    have hf : f_X5_checkRegister a0 = 2 := by simp only [f_X5_checkRegister, if_pos c1]
    obtain ⟨sa2, hsa2⟩ := hC.str 5 _ rfl
    refine vx_throwSW (mc := 1) (ms := 6) (ik := 108) (ic := 112) (is := 262) (own := RX5) (cls := x_IOO) (text := "no such REGISTER") (names := x_nam) hx hb hst hown (by decide) nm_x (hts _ mC_RX5_108) (hts _ mN_IndexOutOfBoundsException) hsa2 (xw_IOO hts hC) xg_IOO hC.1 hC.2.1 hS (by rw [hml]; exact hl.1) dX5_checkRegister_11 dX5_checkRegister_14 dX5_checkRegister_15 dX5_checkRegister_18 dX5_checkRegister_21 (fun x hx => (ht x hx).elim) (Nat.le_of_ble_eq_true rfl) (Nat.le_of_ble_eq_true rfl) (Nat.le_of_ble_eq_true rfl) (Nat.le_of_ble_eq_true rfl) hlocks (fun t hv hz hk => ⟨(), by rw [hf]; exact (by decide : ¬ (2 : Nat) = 0), ⟨by rw [hf]; rfl, True.intro⟩, ⟨Nat.le_trans hS.1 hz, fun q h1 h2 => (hk q (Nat.lt_of_lt_of_le h1 hS.1)).trans (hS.2.1 q h1 h2)⟩⟩) hS.2.2 (Nat.le_of_ble_eq_true rfl) (Nat.le_of_ble_eq_true rfl)
theorem q_X5_checkRegister {p : Program} {l : Launch} {e : Env} {R : Room} {s : State} {m : MethodId} {args : Array Value} {below : List Frame} {meth : Method} {c : Code} {H : Heap} {locs : List Loc} {cells slots : Nat} {Q : State → Prop} {pc : Nat} {ls : Array Slot} {rest : List Value} {cc : ByteArray} {nL idx : Nat} {own : String} {A0 : Nat → Prop} (hst : l.stackTraces = false) (hx : p.tables.exec = Jvm.exec) (hb : c.code = cc) (hml : c.maxLocals = nL) (hown : s.vm.findClass own = some m.cls) (hts : ∀ w ∈ bigW, w.before args s = true) (hlk : Cond.methodLink own idx yX5_checkRegister ∈ bigW) (hR : 7 ≤ R.frames ∧ 113 ≤ R.locals) (hf : cells + 1 ≤ R.cells ∧ slots + 6 ≤ R.slots) (hz : ls.size = nL) (hw : (rest.map fun v => v.category).sum ≤ 8) (hS : va_S A0 s.heap H locs) (hd : decode cc pc = .ok (.invokestatic idx, 3)) (hA : ∀ q, s.heap.size ≤ q → A0 q) (hC : cxt A0 s s.heap) (a0 : Int64) (u : Nat) (hu : u = f_X5_checkRegister a0) (kx : ∀ {E : String} (hE : E = exN u) (ho : ¬ u = 0) (H1 : Heap) (locs1 : List Loc), (∀ q : Nat, q < H.size → H1[q]? = H[q]?) → H.size ≤ H1.size → va_S A0 s.heap H1 locs1 → ∀ (ce : Cell) (q9 : Addr), H1[q9]? = some ce → ce.vm = .none → s.vm.findClass E = some ce.cls → vx_W p l e R s m args below meth c H1 locs1 (cells + 1) (slots + 6) Q (F0 m pc ls rest) q9) (k : u = 0 → ∀ locs, va_S A0 s.heap H locs → W p l e R s m args below meth c H locs (cells + 1) (slots + 6) Q (F0 m (pc + 3) ls (rest))) : W p l e R s m args below meth c H locs cells slots Q (F0 m pc ls (.long a0 :: rest)) := by
  subst hu
  exact vx_callv (vx_runS (As := [.long a0]) (rest := rest) ⟨hx, hb, hml, hown, hts⟩ (c_X5_checkRegister l hst H a0) (kS 1 hts hlk mS_X5_checkRegister mN_RX5 mY_X5_checkRegister rfl rfl (by decide +kernel) hR) ⟨fun a U g mk q => ⟨q.1, q.2.1, q.2.2.call⟩, fun U hU hW => ⟨rfl, hU, hC.here hS hU hW (fun q h => hA q (Nat.le_trans hS.1 h))⟩⟩ rfl rfl hz rfl (lv_room hw) hd hf) hS (fun q h1 h2 => absurd h1 (Nat.not_lt.mpr h2)) (fun q h => hA q (Nat.le_trans hS.1 h)) (fun q h1 h2 => absurd h1 (Nat.not_lt.mpr h2)) (fun E ce q9 u t H1 locs1 ht hvm hw9 hB hz1 hk1 hS1 h1 h2 h3 => kx hB.1 hw9 H1 locs1 (fun q hq => hk1 q hq (Nat.not_le.mpr hq)) hz1 hS1 ce q9 h1 h2 h3) (fun u t H1 locs1 ht hvm hw9 hB hz1 hk1 hS1 => by
    have e : H1 = H := by rw [← ht]; exact hB
    subst e; have e1 := hw9
    exact k e1 locs1 hS1)

def f_X5_checkToken (a0 : Int32) : Nat := (if (f_X5_within a0.toInt64 (0 : Int64) (255 : Int64)) = 0 then 1 else 0)
set_option maxHeartbeats 4000000 in
set_option maxRecDepth 100000 in
theorem c_X5_checkToken (l : Launch) (hst : l.stackTraces = false) (hp : Heap) (a0 : Int32) : vx_Met l yX5_checkToken (mW yX5_checkToken cX5_checkToken 1 none) { frames := 6, cells := 1, slots := 6, locals := 92 } (va_Pc [.int a0] (fun U => U.heap = hp ∧ cxt (fun q : Nat => hp.size ≤ q) U U.heap)) (va_Qv (fun (_ : Unit) => f_X5_checkToken a0 = 0) (fun _ t => t.heap = hp) (fun q : Nat => hp.size ≤ q)) (vx_X (fun _ : Unit => ¬ f_X5_checkToken a0 = 0) (fun E _ t => E = exN (f_X5_checkToken a0) ∧ True) (fun q : Nat => hp.size ≤ q)) 1 6 (fun q : Nat => hp.size ≤ q) := by
  refine vx_ofW (cc := cX5_checkToken) (maxL := 1) (ret := none) (by decide) rfl ?_
  intro p e s m args below meth c s₁ B hml ht hv
  obtain ⟨rfl, hh, hC⟩ := hv
  have hx := B.exec
  have hb := B.bytes
  have hr := B.returns
  have hts := mW_hts (atoms_spec (ws := (mW yX5_checkToken cX5_checkToken 1 none)) B.pre)
  have hown : s.vm.findClass RX5 = some m.cls := findClass_of_methodNamed B.named
  have hlocks := B.notSynchronized
  subst hh
  have hA : ∀ (n : Nat) (q : Nat), s.heap.size ≤ n → n ≤ q → s.heap.size ≤ q := fun n q h1 h2 => Nat.le_trans h1 h2
  have hS : va_S ((fun q : Nat => s.heap.size ≤ q)) s.heap s.heap [] := va_S.rf
  have hA : ∀ q, s.heap.size ≤ q → ((fun q : Nat => s.heap.size ≤ q)) q := fun q h => h
  have hl := lv_entry ([.int a0]) (n := 1) (Nat.le_of_ble_eq_true rfl)
  rw [lg_entry_eq]
  generalize (lg_sl ([.int a0]) ++ List.replicate (1 - (lg_sl ([.int a0])).length) Slot.unset).toArray = ls at hl ⊢
  have hl : lv_has ls 1 [(0, .int a0)] := hl
  refine W_gen (fun Q9 hQ9 => ?_)
  refine lv_iload_n hx hb dX5_checkToken_0 rfl (lv_at hl 0 rfl) ?_
  refine lv_i2l hx hb dX5_checkToken_1 rfl ?_
  refine lv_lconst (v := 0) hx hb dX5_checkToken_2 (by decide) ?_
  refine lv_ldc2 hx hb hown (hts _ mK_RX5_264) dX5_checkToken_3 ?_
  refine q_X5_within hx hb hml hown hts mM_RX5_71 ⟨Nat.le_of_ble_eq_true rfl, Nat.le_of_ble_eq_true rfl⟩ ⟨Nat.le_of_ble_eq_true rfl, Nat.le_of_ble_eq_true rfl⟩ hl.1 (Nat.le_of_ble_eq_true rfl) hS dX5_checkToken_6 hA a0.toInt64 (0 : Int64) (255 : Int64) (fun locs hS => ?_)
  refine lv_if_ne (tgt := 23) hx hb dX5_checkToken_9 (by decide) (fun c1 => ?_) (fun c1 => ?_)
  · rw [hQ9]
    have hf : f_X5_checkToken a0 = 0 := by simp only [f_X5_checkToken, if_neg c1]
    refine vx_ret ?_
    refine W.widen (k := 1) (n := 6) (Nat.le_of_ble_eq_true rfl) (Nat.le_of_ble_eq_true rfl) ?_
    exact W.vret hx hb hr (fun t ht hW => ⟨⟨(), rfl, by rw [hf], ht⟩, hS.F ht⟩) hS.2.2 dX5_checkToken_23
  · rw [hQ9]
    have hf : f_X5_checkToken a0 = 1 := by simp only [f_X5_checkToken, if_pos c1]
    obtain ⟨sa2, hsa2⟩ := hC.str 0 _ rfl
    refine vx_throwSW (mc := 1) (ms := 6) (ik := 62) (ic := 66) (is := 266) (own := RX5) (cls := x_IAE) (text := "no TOKEN") (names := x_nam) hx hb hst hown (by decide) nm_x (hts _ mC_RX5_62) (hts _ mN_IllegalArgumentException) hsa2 (xw_IAE hts hC) xg_IAE hC.1 hC.2.1 hS (by rw [hml]; exact hl.1) dX5_checkToken_12 dX5_checkToken_15 dX5_checkToken_16 dX5_checkToken_19 dX5_checkToken_22 (fun x hx => (ht x hx).elim) (Nat.le_of_ble_eq_true rfl) (Nat.le_of_ble_eq_true rfl) (Nat.le_of_ble_eq_true rfl) (Nat.le_of_ble_eq_true rfl) hlocks (fun t hv hz hk => ⟨(), by rw [hf]; exact (by decide : ¬ (1 : Nat) = 0), ⟨by rw [hf]; rfl, True.intro⟩, ⟨Nat.le_trans hS.1 hz, fun q h1 h2 => (hk q (Nat.lt_of_lt_of_le h1 hS.1)).trans (hS.2.1 q h1 h2)⟩⟩) hS.2.2 (Nat.le_of_ble_eq_true rfl) (Nat.le_of_ble_eq_true rfl)
theorem q_X5_checkToken {p : Program} {l : Launch} {e : Env} {R : Room} {s : State} {m : MethodId} {args : Array Value} {below : List Frame} {meth : Method} {c : Code} {H : Heap} {locs : List Loc} {cells slots : Nat} {Q : State → Prop} {pc : Nat} {ls : Array Slot} {rest : List Value} {cc : ByteArray} {nL idx : Nat} {own : String} {A0 : Nat → Prop} (hst : l.stackTraces = false) (hx : p.tables.exec = Jvm.exec) (hb : c.code = cc) (hml : c.maxLocals = nL) (hown : s.vm.findClass own = some m.cls) (hts : ∀ w ∈ bigW, w.before args s = true) (hlk : Cond.methodLink own idx yX5_checkToken ∈ bigW) (hR : 7 ≤ R.frames ∧ 112 ≤ R.locals) (hf : cells + 1 ≤ R.cells ∧ slots + 6 ≤ R.slots) (hz : ls.size = nL) (hw : (rest.map fun v => v.category).sum ≤ 8) (hS : va_S A0 s.heap H locs) (hd : decode cc pc = .ok (.invokestatic idx, 3)) (hA : ∀ q, s.heap.size ≤ q → A0 q) (hC : cxt A0 s s.heap) (a0 : Int32) (u : Nat) (hu : u = f_X5_checkToken a0) (kx : ∀ {E : String} (hE : E = exN u) (ho : ¬ u = 0) (H1 : Heap) (locs1 : List Loc), (∀ q : Nat, q < H.size → H1[q]? = H[q]?) → H.size ≤ H1.size → va_S A0 s.heap H1 locs1 → ∀ (ce : Cell) (q9 : Addr), H1[q9]? = some ce → ce.vm = .none → s.vm.findClass E = some ce.cls → vx_W p l e R s m args below meth c H1 locs1 (cells + 1) (slots + 6) Q (F0 m pc ls rest) q9) (k : u = 0 → ∀ locs, va_S A0 s.heap H locs → W p l e R s m args below meth c H locs (cells + 1) (slots + 6) Q (F0 m (pc + 3) ls (rest))) : W p l e R s m args below meth c H locs cells slots Q (F0 m pc ls (.int a0 :: rest)) := by
  subst hu
  exact vx_callv (vx_runS (As := [.int a0]) (rest := rest) ⟨hx, hb, hml, hown, hts⟩ (c_X5_checkToken l hst H a0) (kS 1 hts hlk mS_X5_checkToken mN_RX5 mY_X5_checkToken rfl rfl (by decide +kernel) hR) ⟨fun a U g mk q => ⟨q.1, q.2.1, q.2.2.call⟩, fun U hU hW => ⟨rfl, hU, hC.here hS hU hW (fun q h => hA q (Nat.le_trans hS.1 h))⟩⟩ rfl rfl hz rfl (lv_room hw) hd hf) hS (fun q h1 h2 => absurd h1 (Nat.not_lt.mpr h2)) (fun q h => hA q (Nat.le_trans hS.1 h)) (fun q h1 h2 => absurd h1 (Nat.not_lt.mpr h2)) (fun E ce q9 u t H1 locs1 ht hvm hw9 hB hz1 hk1 hS1 h1 h2 h3 => kx hB.1 hw9 H1 locs1 (fun q hq => hk1 q hq (Nat.not_le.mpr hq)) hz1 hS1 ce q9 h1 h2 h3) (fun u t H1 locs1 ht hvm hw9 hB hz1 hk1 hS1 => by
    have e : H1 = H := by rw [← ht]; exact hB
    subst e; have e1 := hw9
    exact k e1 locs1 hS1)

def f_X5_token (a0 : Int32) (Wr : Nat → Int64) : Nat × Int32 × (Nat → Int64) := (let u1 := f_X5_checkToken a0; (if u1 = 0 then (if (Wr (0 : Int32).toNatClampNeg).toInt32 < 0 then (0, (-1 : Int32), Wr) else (if (Wr (0 : Int32).toNatClampNeg).toInt32 < (20 : Int32) then (0, ((Wr (0 : Int32).toNatClampNeg).toInt32 + (1 : Int32)), (vp_updL (vp_updL Wr ((Wr (0 : Int32).toNatClampNeg).toInt32 + (1 : Int32)).toNatClampNeg a0.toInt64) (0 : Int32).toNatClampNeg ((Wr (0 : Int32).toNatClampNeg).toInt32 + (1 : Int32)).toInt64)) else (0, (-1 : Int32), Wr))) else (u1, 0, Wr)))
def S_X5_token (a0 : Int32) (Wr : Nat → Int64) : Prop := ∀ u1, u1 = f_X5_checkToken a0 → (u1 = 0 → ((vp_in (0 : Int32) 21) ∧ (((Wr (0 : Int32).toNatClampNeg).toInt32 < 0 → (True)) ∧ (¬ (Wr (0 : Int32).toNatClampNeg).toInt32 < 0 → (((Wr (0 : Int32).toNatClampNeg).toInt32 < (20 : Int32) → ((vp_in ((Wr (0 : Int32).toNatClampNeg).toInt32 + (1 : Int32)) 21) ∧ ((vp_in (0 : Int32) 21) ∧ (True)))) ∧ (¬ (Wr (0 : Int32).toNatClampNeg).toInt32 < (20 : Int32) → (True)))))))
set_option maxHeartbeats 4000000 in
set_option maxRecDepth 100000 in
theorem c_X5_token (l : Launch) (hst : l.stackTraces = false) (dC : Nat → ClassId) (dI : Nat → Nat → Nat) (cI cJ : ClassId) (ad : Nat → Nat) (hi : fI 23 ad) (sz : Nat) (Bc : Nat → Int64) (Bl : Nat → Int32) (Pk : Nat → Int32) (Pr : Nat → Int32) (Pl : Nat → Int32) (Pc : Nat → Int64) (Pm : Int32) (Gf : Nat → Int32) (Gt : Nat → Int32) (Gx : Nat → Int32) (Gd : Int32) (Gm : Int32) (Ek : Nat → Int32) (Er : Nat → Int32) (Ea : Nat → Int32) (Ex : Nat → Int32) (Em : Int32) (Eb : Int32) (Et : Int32) (Ss : Nat → Int32) (Sm : Int32) (Wg : Nat → Int64) (Wr : Nat → Int64) (Md : Nat → Int64) (a0 : Int32) (hs : S_X5_token a0 Wr) : vx_Met l yX5_token (mW yX5_token cX5_token 3 (some .int)) { frames := 7, cells := 1, slots := 6, locals := 112 } (va_Pc [.ref (ad 0), .int a0] (fun U => U.heap.size = sz ∧ va_P (dC, dI) vwCl (wC ad cI cJ Bc Bl Pk Pr Pl Pc Pm Gf Gt Gx Gd Gm Ek Er Ea Ex Em Eb Et Ss Sm Wg Wr Md) U.heap ∧ va_K (dC, dI) vwCl [(cI, .int), (cJ, .long)] U ∧ cxt (fA 23 ad sz) U U.heap)) (va_Qi (fun (r : Int32) (_ : Unit) => (f_X5_token a0 Wr).1 = 0 ∧ r = (f_X5_token a0 Wr).2.1) (fun _ t => va_P (dC, dI) vwCl (wC ad cI cJ Bc Bl Pk Pr Pl Pc Pm Gf Gt Gx Gd Gm Ek Er Ea Ex Em Eb Et Ss Sm Wg ((f_X5_token a0 Wr).2.2) Md) t.heap) (fA 23 ad sz)) (vx_X (fun _ : Unit => ¬ (f_X5_token a0 Wr).1 = 0) (fun E _ t => E = exN ((f_X5_token a0 Wr).1) ∧ va_P (dC, dI) vwCl (wC ad cI cJ Bc Bl Pk Pr Pl Pc Pm Gf Gt Gx Gd Gm Ek Er Ea Ex Em Eb Et Ss Sm Wg ((f_X5_token a0 Wr).2.2) Md) t.heap) (fA 23 ad sz)) 1 6 (fA 23 ad sz) := by
  refine vx_ofW (cc := cX5_token) (maxL := 3) (ret := (some .int)) (by decide) rfl ?_
  intro p e s m args below meth c s₁ B hml ht hv
  obtain ⟨rfl, hsz, hP, hK, hC⟩ := hv
  have hx := B.exec
  have hb := B.bytes
  have hr := B.returns
  have hts := mW_hts (atoms_spec (ws := (mW yX5_token cX5_token 3 (some .int))) B.pre)
  have hown : s.vm.findClass RX5 = some m.cls := findClass_of_methodNamed B.named
  have hlocks := B.notSynchronized
  subst hsz
  have hA : ∀ (n : Nat) (q : Nat), s.heap.size ≤ n → n ≤ q → fA 23 ad s.heap.size q := fun n q h1 h2 => Or.inr (Nat.le_trans h1 h2)
  have hS : va_S (fA 23 ad s.heap.size) s.heap s.heap [] := va_S.rf
  have hA : ∀ q, s.heap.size ≤ q → (fA 23 ad s.heap.size) q := fun q h => Or.inr h
  unfold S_X5_token at hs
  have hl := lv_entry ([.ref (ad 0), .int a0]) (n := 3) (Nat.le_of_ble_eq_true rfl)
  rw [lg_entry_eq]
  generalize (lg_sl ([.ref (ad 0), .int a0]) ++ List.replicate (3 - (lg_sl ([.ref (ad 0), .int a0])).length) Slot.unset).toArray = ls at hl ⊢
  have hl : lv_has ls 3 [(0, .ref (ad 0)), (1, .int a0)] := hl
  refine W_gen (fun Q9 hQ9 => ?_)
  refine lv_iload_n hx hb dX5_token_0 rfl (lv_at hl 1 rfl) ?_
  obtain ⟨u1, hu1⟩ : ∃ z, z = f_X5_checkToken a0 := ⟨_, rfl⟩
  have hs := hs u1 hu1
  refine q_X5_checkToken hst hx hb hml hown hts mM_RX5_54 ⟨Nat.le_of_ble_eq_true rfl, Nat.le_of_ble_eq_true rfl⟩ ⟨Nat.le_of_ble_eq_true rfl, Nat.le_of_ble_eq_true rfl⟩ hl.1 (Nat.le_of_ble_eq_true rfl) hS dX5_token_1 hA hC a0 u1 hu1 (fun hE c2 H locs hk hz hS ce q9 h71 h72 h73 => ?_) (fun c2 locs hS => ?_)
  · have hP := hP.kept (H1 := H) (fun k z hkz => hk z.1 (hP k z hkz).lt)
    rw [hQ9]
    have hf : f_X5_token a0 Wr = (u1, 0, Wr) := by simp only [f_X5_token, ← hu1, if_neg c2]
    refine vx_widen (k := 1) (n := 6) (Nat.le_of_ble_eq_true rfl) (Nat.le_of_ble_eq_true rfl) (vx_out (fun x hx => (ht x hx).elim) hlocks h71 h72 h73 (fun t hh hv => ⟨(), by rw [hf]; exact c2, ⟨by rw [hf]; exact hE, by rw [hf]; show va_P (dC, dI) vwCl _ t.heap; rw [hh]; exact hP⟩, hS.F hh⟩) hS.2.2 (Nat.le_of_ble_eq_true rfl) (Nat.le_of_ble_eq_true rfl))
  · have hs := hs c2
    refine lv_aload_n hx hb dX5_token_4 rfl (lv_at hl 0 rfl) ?_
    refine va_get (D := (dC, dI)) (ci := 7) (v := .ref (ad 21)) (C := RX5) (T := TX5) (N := 8) hx hb hts iW_X5 hown hK hP 0 rfl rfl 6 (by decide) (hts _ mF_RX5_48) (fun _ h9 => h9) rfl dX5_token_5 ?_
    refine lv_iconst (v := 0) hx hb dX5_token_8 (by decide) ?_
    obtain ⟨h3, hs⟩ := hs
    refine va_lald hx hb hK hP 21 1 rfl rfl h3 dX5_token_9 ?_
    refine lv_l2i hx hb dX5_token_10 rfl ?_
    refine lv_istore_n (lv' := [(2, .int (Wr (0 : Int32).toNatClampNeg).toInt32), (0, .ref (ad 0)), (1, .int a0)]) hx hb dX5_token_11 rfl hl (by decide) rfl (fun ls hl => ?_)
    refine lv_iload_n hx hb dX5_token_12 rfl (lv_at hl 0 rfl) ?_
    refine lv_if_lt (tgt := 22) hx hb dX5_token_13 (by decide) (fun c4 => ?_) (fun c4 => ?_)
    · have hs := hs.1 c4
      refine lv_iconst (v := (-1)) hx hb dX5_token_22 (by decide) ?_
      rw [hQ9]
      have hf : f_X5_token a0 Wr = (0, (-1 : Int32), Wr) := by simp only [f_X5_token, ← hu1, if_pos c2, if_pos c4]
      refine vx_ret ?_
      exact W.iret (v := (-1 : Int32)) hx hb hr (fun t ht hW => ⟨⟨(-1 : Int32), (), rfl, ⟨by rw [hf], by rw [hf]⟩, by rw [hf]; show va_P (dC, dI) vwCl _ t.heap; rw [ht]; exact hP⟩, hS.F ht⟩) hS.2.2 dX5_token_23
    · have hs := hs.2 c4
      refine lv_iload_n hx hb dX5_token_16 rfl (lv_at hl 0 rfl) ?_
      refine lv_bipush (v := 20) hx hb dX5_token_17 (by decide) ?_
      refine lv_icmp_lt (tgt := 24) hx hb dX5_token_19 (by decide) (fun c5 => ?_) (fun c5 => ?_)
      · have hs := hs.1 c5
        refine lv_aload_n hx hb dX5_token_24 rfl (lv_at hl 1 rfl) ?_
        refine va_get (D := (dC, dI)) (ci := 7) (v := .ref (ad 21)) (C := RX5) (T := TX5) (N := 8) hx hb hts iW_X5 hown hK hP 0 rfl rfl 6 (by decide) (hts _ mF_RX5_48) (fun _ h9 => h9) rfl dX5_token_25 ?_
        refine lv_iload_n hx hb dX5_token_28 rfl (lv_at hl 0 rfl) ?_
        refine lv_iconst (v := 1) hx hb dX5_token_29 (by decide) ?_
        refine lv_iadd hx hb dX5_token_30 ?_
        refine lv_iload_n hx hb dX5_token_31 rfl (lv_at hl 2 rfl) ?_
        refine lv_i2l hx hb dX5_token_32 rfl ?_
        obtain ⟨h6, hs⟩ := hs
        refine va_last hx hb hK hP (fA_D hi rfl) hS 21 1 rfl rfl h6 dX5_token_33 (fun H locs hP _ hS => ?_)
        have hP : va_P (dC, dI) vwCl (wC ad cI cJ Bc Bl Pk Pr Pl Pc Pm Gf Gt Gx Gd Gm Ek Er Ea Ex Em Eb Et Ss Sm Wg (vp_updL Wr ((Wr (0 : Int32).toNatClampNeg).toInt32 + (1 : Int32)).toNatClampNeg a0.toInt64) Md) H := hP
        refine lv_aload_n hx hb dX5_token_34 rfl (lv_at hl 1 rfl) ?_
        refine va_get (D := (dC, dI)) (ci := 7) (v := .ref (ad 21)) (C := RX5) (T := TX5) (N := 8) hx hb hts iW_X5 hown hK hP 0 rfl rfl 6 (by decide) (hts _ mF_RX5_48) (fun _ h9 => h9) rfl dX5_token_35 ?_
        refine lv_iconst (v := 0) hx hb dX5_token_38 (by decide) ?_
        refine lv_iload_n hx hb dX5_token_39 rfl (lv_at hl 0 rfl) ?_
        refine lv_iconst (v := 1) hx hb dX5_token_40 (by decide) ?_
        refine lv_iadd hx hb dX5_token_41 ?_
        refine lv_i2l hx hb dX5_token_42 rfl ?_
        obtain ⟨h7, hs⟩ := hs
        refine va_last hx hb hK hP (fA_D hi rfl) hS 21 1 rfl rfl h7 dX5_token_43 (fun H locs hP _ hS => ?_)
        have hP : va_P (dC, dI) vwCl (wC ad cI cJ Bc Bl Pk Pr Pl Pc Pm Gf Gt Gx Gd Gm Ek Er Ea Ex Em Eb Et Ss Sm Wg (vp_updL (vp_updL Wr ((Wr (0 : Int32).toNatClampNeg).toInt32 + (1 : Int32)).toNatClampNeg a0.toInt64) (0 : Int32).toNatClampNeg ((Wr (0 : Int32).toNatClampNeg).toInt32 + (1 : Int32)).toInt64) Md) H := hP
        refine lv_iload_n hx hb dX5_token_44 rfl (lv_at hl 0 rfl) ?_
        refine lv_iconst (v := 1) hx hb dX5_token_45 (by decide) ?_
        refine lv_iadd hx hb dX5_token_46 ?_
        rw [hQ9]
        have hf : f_X5_token a0 Wr = (0, ((Wr (0 : Int32).toNatClampNeg).toInt32 + (1 : Int32)), (vp_updL (vp_updL Wr ((Wr (0 : Int32).toNatClampNeg).toInt32 + (1 : Int32)).toNatClampNeg a0.toInt64) (0 : Int32).toNatClampNeg ((Wr (0 : Int32).toNatClampNeg).toInt32 + (1 : Int32)).toInt64)) := by simp only [f_X5_token, ← hu1, if_pos c2, if_neg c4, if_pos c5]
        refine vx_ret ?_
        exact W.iret (v := ((Wr (0 : Int32).toNatClampNeg).toInt32 + (1 : Int32))) hx hb hr (fun t ht hW => ⟨⟨((Wr (0 : Int32).toNatClampNeg).toInt32 + (1 : Int32)), (), rfl, ⟨by rw [hf], by rw [hf]⟩, by rw [hf]; show va_P (dC, dI) vwCl _ t.heap; rw [ht]; exact hP⟩, hS.F ht⟩) hS.2.2 dX5_token_47
      · have hs := hs.2 c5
        refine lv_iconst (v := (-1)) hx hb dX5_token_22 (by decide) ?_
        rw [hQ9]
        have hf : f_X5_token a0 Wr = (0, (-1 : Int32), Wr) := by simp only [f_X5_token, ← hu1, if_pos c2, if_neg c4, if_neg c5]
        refine vx_ret ?_
        exact W.iret (v := (-1 : Int32)) hx hb hr (fun t ht hW => ⟨⟨(-1 : Int32), (), rfl, ⟨by rw [hf], by rw [hf]⟩, by rw [hf]; show va_P (dC, dI) vwCl _ t.heap; rw [ht]; exact hP⟩, hS.F ht⟩) hS.2.2 dX5_token_23
theorem q_X5_token {p : Program} {l : Launch} {e : Env} {R : Room} {s : State} {m : MethodId} {args : Array Value} {below : List Frame} {meth : Method} {c : Code} {H : Heap} {locs : List Loc} {cells slots : Nat} {Q : State → Prop} {pc : Nat} {ls : Array Slot} {rest : List Value} {cc : ByteArray} {nL idx : Nat} {own : String} {A0 : Nat → Prop} {dC : Nat → ClassId} {dI : Nat → Nat → Nat} {cI cJ : ClassId} {ad : Nat → Nat} {Bc : Nat → Int64} {Bl : Nat → Int32} {Pk : Nat → Int32} {Pr : Nat → Int32} {Pl : Nat → Int32} {Pc : Nat → Int64} {Pm : Int32} {Gf : Nat → Int32} {Gt : Nat → Int32} {Gx : Nat → Int32} {Gd : Int32} {Gm : Int32} {Ek : Nat → Int32} {Er : Nat → Int32} {Ea : Nat → Int32} {Ex : Nat → Int32} {Em : Int32} {Eb : Int32} {Et : Int32} {Ss : Nat → Int32} {Sm : Int32} {Wg : Nat → Int64} {Wr : Nat → Int64} {Md : Nat → Int64} (hst : l.stackTraces = false) (hx : p.tables.exec = Jvm.exec) (hb : c.code = cc) (hml : c.maxLocals = nL) (hown : s.vm.findClass own = some m.cls) (hts : ∀ w ∈ bigW, w.before args s = true) (hlk : Cond.methodLink own idx yX5_token ∈ bigW) (hR : 8 ≤ R.frames ∧ 134 ≤ R.locals) (hf : cells + 1 ≤ R.cells ∧ slots + 6 ≤ R.slots) (hz : ls.size = nL) (hw : (rest.map fun v => v.category).sum ≤ 8) (hS : va_S A0 s.heap H locs) (hd : decode cc pc = .ok (.invokevirtual idx, 3)) (hA : ∀ q, fA 23 ad H.size q → A0 q) (hi : fI 23 ad) (hK : va_K (dC, dI) vwCl [(cI, .int), (cJ, .long)] s) (hP : va_P (dC, dI) vwCl (wC ad cI cJ Bc Bl Pk Pr Pl Pc Pm Gf Gt Gx Gd Gm Ek Er Ea Ex Em Eb Et Ss Sm Wg Wr Md) H) (hC : cxt A0 s s.heap) (a0 : Int32) (hs : S_X5_token a0 Wr)  (u : Nat × Int32 × (Nat → Int64)) (hu : u = f_X5_token a0 Wr) (kx : ∀ {E : String} (hE : E = exN u.1) (ho : ¬ u.1 = 0) (H1 : Heap) (locs1 : List Loc), va_P (dC, dI) vwCl (wC ad cI cJ Bc Bl Pk Pr Pl Pc Pm Gf Gt Gx Gd Gm Ek Er Ea Ex Em Eb Et Ss Sm Wg u.2.2 Md) H1 → va_S A0 s.heap H1 locs1 → ∀ (ce : Cell) (q9 : Addr), H1[q9]? = some ce → ce.vm = .none → s.vm.findClass E = some ce.cls → vx_W p l e R s m args below meth c H1 locs1 (cells + 1) (slots + 6) Q (F0 m pc ls rest) q9) (k : u.1 = 0 → ∀ (H1 : Heap) (locs1 : List Loc), va_P (dC, dI) vwCl (wC ad cI cJ Bc Bl Pk Pr Pl Pc Pm Gf Gt Gx Gd Gm Ek Er Ea Ex Em Eb Et Ss Sm Wg u.2.2 Md) H1 → va_S A0 s.heap H1 locs1 → W p l e R s m args below meth c H1 locs1 (cells + 1) (slots + 6) Q (F0 m (pc + 3) ls (.int u.2.1 :: rest))) : W p l e R s m args below meth c H locs cells slots Q (F0 m pc ls (.int a0 :: .ref (ad 0) :: rest)) := by
  subst hu
  exact vx_calli (vx_runV (As := [.int a0]) (rest := rest) ⟨hx, hb, hml, hown, hts⟩ (c_X5_token l hst dC dI cI cJ ad hi H.size Bc Bl Pk Pr Pl Pc Pm Gf Gt Gx Gd Gm Ek Er Ea Ex Em Eb Et Ss Sm Wg Wr Md a0 hs) (kV 1 hts hlk mI_X5_token mN_RX5 mY_X5_token mV_X5_token rfl rfl (by decide +kernel) hR) ⟨fun a U g mk q => ⟨q.1, q.2.1, q.2.2.1, va_K.moved (u := U) (U := U.calling g mk a) (Vm.Alike.refl U.vm) q.2.2.2.1, q.2.2.2.2.call⟩, va_recv hK hP (ci := 7) (q0 := 0) rfl rfl, fun U hU hW => ⟨rfl, by rw [hU], by rw [hU]; exact hP, va_K.moved hW.alike hK, hC.here hS hU hW hA⟩⟩ rfl rfl hz rfl (lv_room hw) hd hf) hS (fun q _ h => hA q h) (fun q h => hA q h) (fun q _ h => hA q h) (fun E ce q9 u t H1 locs1 ht hvm hw9 hB hz1 hk1 hS1 h1 h2 h3 => kx hB.1 hw9 H1 locs1 (by rw [← ht]; exact hB.2) hS1 ce q9 h1 h2 h3) (fun r u t H1 locs1 ht hvm hw9 hB hz1 hk1 hS1 => by
    obtain ⟨e1, rfl⟩ := hw9
    exact k e1 H1 locs1 (by rw [← ht]; exact hB) hS1)
theorem qf_X5_token {p : Program} {l : Launch} {e : Env} {R : Room} {s : State} {m : MethodId} {args : Array Value} {below : List Frame} {meth : Method} {c : Code} {H : Heap} {locs : List Loc} {cells slots : Nat} {Q : State → Prop} {pc : Nat} {ls : Array Slot} {rest : List Value} {cc : ByteArray} {nL idx : Nat} {own : String} {A0 : Nat → Prop} {dC : Nat → ClassId} {dI : Nat → Nat → Nat} {cI cJ : ClassId} {ad : Nat → Nat} {Bc : Nat → Int64} {Bl : Nat → Int32} {Pk : Nat → Int32} {Pr : Nat → Int32} {Pl : Nat → Int32} {Pc : Nat → Int64} {Pm : Int32} {Gf : Nat → Int32} {Gt : Nat → Int32} {Gx : Nat → Int32} {Gd : Int32} {Gm : Int32} {Ek : Nat → Int32} {Er : Nat → Int32} {Ea : Nat → Int32} {Ex : Nat → Int32} {Em : Int32} {Eb : Int32} {Et : Int32} {Ss : Nat → Int32} {Sm : Int32} {Wg : Nat → Int64} {Wr : Nat → Int64} {Md : Nat → Int64} (hst : l.stackTraces = false) (hx : p.tables.exec = Jvm.exec) (hb : c.code = cc) (hml : c.maxLocals = nL) (hown : s.vm.findClass own = some m.cls) (hts : ∀ w ∈ bigW, w.before args s = true) (hlk : Cond.methodLink own idx yX5_token ∈ bigW) (hR : 8 ≤ R.frames ∧ 134 ≤ R.locals) (hf : cells + 1 ≤ R.cells ∧ slots + 6 ≤ R.slots) (hz : ls.size = nL) (hw : (rest.map fun v => v.category).sum ≤ 8) (hS : va_S A0 s.heap H locs) (hd : decode cc pc = .ok (.invokevirtual idx, 3)) (hA : ∀ q, fA 23 ad H.size q → A0 q) (hi : fI 23 ad) (hK : va_K (dC, dI) vwCl [(cI, .int), (cJ, .long)] s) (hP : va_P (dC, dI) vwCl (wC ad cI cJ Bc Bl Pk Pr Pl Pc Pm Gf Gt Gx Gd Gm Ek Er Ea Ex Em Eb Et Ss Sm Wg Wr Md) H) (hC : cxt A0 s s.heap) (a0 : Int32) (hs : S_X5_token a0 Wr)  (u : Nat × Int32 × (Nat → Int64)) (hu : u = f_X5_token a0 Wr) (kx : ∀ {E : String} (hE : E = exN u.1) (ho : ¬ u.1 = 0) (H1 : Heap) (locs1 : List Loc), va_P (dC, dI) vwCl (wC ad cI cJ Bc Bl Pk Pr Pl Pc Pm Gf Gt Gx Gd Gm Ek Er Ea Ex Em Eb Et Ss Sm Wg u.2.2 Md) H1 → va_S A0 s.heap H1 locs1 → (∀ q : Nat, q < H.size → ¬ fA 23 ad H.size q → H1[q]? = H[q]?) → H.size ≤ H1.size → ∀ (ce : Cell) (q9 : Addr), H1[q9]? = some ce → ce.vm = .none → s.vm.findClass E = some ce.cls → vx_W p l e R s m args below meth c H1 locs1 (cells + 1) (slots + 6) Q (F0 m pc ls rest) q9) (k : u.1 = 0 → ∀ (H1 : Heap) (locs1 : List Loc), va_P (dC, dI) vwCl (wC ad cI cJ Bc Bl Pk Pr Pl Pc Pm Gf Gt Gx Gd Gm Ek Er Ea Ex Em Eb Et Ss Sm Wg u.2.2 Md) H1 → va_S A0 s.heap H1 locs1 → (∀ q : Nat, q < H.size → ¬ fA 23 ad H.size q → H1[q]? = H[q]?) → H.size ≤ H1.size → W p l e R s m args below meth c H1 locs1 (cells + 1) (slots + 6) Q (F0 m (pc + 3) ls (.int u.2.1 :: rest))) : W p l e R s m args below meth c H locs cells slots Q (F0 m pc ls (.int a0 :: .ref (ad 0) :: rest)) := by
  subst hu
  exact vx_calli (vx_runV (As := [.int a0]) (rest := rest) ⟨hx, hb, hml, hown, hts⟩ (c_X5_token l hst dC dI cI cJ ad hi H.size Bc Bl Pk Pr Pl Pc Pm Gf Gt Gx Gd Gm Ek Er Ea Ex Em Eb Et Ss Sm Wg Wr Md a0 hs) (kV 1 hts hlk mI_X5_token mN_RX5 mY_X5_token mV_X5_token rfl rfl (by decide +kernel) hR) ⟨fun a U g mk q => ⟨q.1, q.2.1, q.2.2.1, va_K.moved (u := U) (U := U.calling g mk a) (Vm.Alike.refl U.vm) q.2.2.2.1, q.2.2.2.2.call⟩, va_recv hK hP (ci := 7) (q0 := 0) rfl rfl, fun U hU hW => ⟨rfl, by rw [hU], by rw [hU]; exact hP, va_K.moved hW.alike hK, hC.here hS hU hW hA⟩⟩ rfl rfl hz rfl (lv_room hw) hd hf) hS (fun q _ h => hA q h) (fun q h => hA q h) (fun q _ h => hA q h) (fun E ce q9 u t H1 locs1 ht hvm hw9 hB hz1 hk1 hS1 h1 h2 h3 => kx hB.1 hw9 H1 locs1 (by rw [← ht]; exact hB.2) hS1 hk1 hz1 ce q9 h1 h2 h3) (fun r u t H1 locs1 ht hvm hw9 hB hz1 hk1 hS1 => by
    obtain ⟨e1, rfl⟩ := hw9
    exact k e1 H1 locs1 (by rw [← ht]; exact hB) hS1 hk1 hz1)
