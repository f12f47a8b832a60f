def f_X2_open (a0 : Int32) (Gf : Nat → Int32) (Gt : Nat → Int32) (Gd : Int32) (Gm : Int32) : (Nat → Int32) × (Nat → Int32) × Int32 := (if Gd < 0 then (Gf, Gt, Gd) else (if (20 : Int32) ≤ Gd then (Gf, Gt, Gd) else ((upd Gf Gd.toNatClampNeg a0), (upd Gt Gd.toNatClampNeg Gm), (Gd + (1 : Int32)))))
def S_X2_open (a0 : Int32) (Gf : Nat → Int32) (Gt : Nat → Int32) (Gd : Int32) (Gm : Int32) : Prop := (Gd < 0 → (True)) ∧ (¬ Gd < 0 → (((20 : Int32) ≤ Gd → (True)) ∧ (¬ (20 : Int32) ≤ Gd → ((vp_in Gd 20) ∧ ((vp_in Gd 20) ∧ (True))))))
set_option maxHeartbeats 4000000 in
set_option maxRecDepth 100000 in
theorem c_X2_open (l : Launch) (dC : Nat → ClassId) (dI : Nat → Nat → Nat) (cI cJ : ClassId) (ad : Nat → Nat) (hi : fI 23 ad) (sz : Nat) (Bc : Nat → Int64) (Bl : Nat → Int32) (Pk : Nat → Int32) (Pr : Nat → Int32) (Pl : Nat → Int32) (Pc : Nat → Int64) (Pm : Int32) (Gf : Nat → Int32) (Gt : Nat → Int32) (Gx : Nat → Int32) (Gd : Int32) (Gm : Int32) (Ek : Nat → Int32) (Er : Nat → Int32) (Ea : Nat → Int32) (Ex : Nat → Int32) (Em : Int32) (Eb : Int32) (Et : Int32) (Ss : Nat → Int32) (Sm : Int32) (Wg : Nat → Int64) (Wr : Nat → Int64) (Md : Nat → Int64) (a0 : Int32) (hs : S_X2_open a0 Gf Gt Gd Gm) : Met l yX2_open (mW yX2_open cX2_open 2 none) { frames := 0, cells := 0, slots := 0, locals := 0 } (va_Pc [.ref (ad 9), .int a0] (fun U => U.heap.size = sz ∧ va_P (dC, dI) vwCl (wC ad cI cJ Bc Bl Pk Pr Pl Pc Pm Gf Gt Gx Gd Gm Ek Er Ea Ex Em Eb Et Ss Sm Wg Wr Md) U.heap ∧ va_K (dC, dI) vwCl [(cI, .int), (cJ, .long)] U)) (va_Qv (fun (_ : Unit) => True) (fun _ t => va_P (dC, dI) vwCl (wC ad cI cJ Bc Bl Pk Pr Pl Pc Pm ((f_X2_open a0 Gf Gt Gd Gm).1) ((f_X2_open a0 Gf Gt Gd Gm).2.1) Gx ((f_X2_open a0 Gf Gt Gd Gm).2.2) Gm Ek Er Ea Ex Em Eb Et Ss Sm Wg Wr Md) t.heap) (fA 23 ad sz)) 0 0 (fA 23 ad sz) := by
  refine Met.ofW (cc := cX2_open) (maxL := 2) (ret := none) (by decide) rfl ?_
  intro p e s m args below meth c s₁ B hml hv
  obtain ⟨rfl, hsz, hP, hK⟩ := hv
  have hx := B.exec
  have hb := B.bytes
  have hr := B.returns
  have hts := mW_hts (atoms_spec (ws := (mW yX2_open cX2_open 2 none)) B.pre)
  have hown : s.vm.findClass RX2 = some m.cls := findClass_of_methodNamed B.named
  have hlocks := B.notSynchronized
  subst hsz
  have hA : ∀ (n : Nat) (q : Nat), s.heap.size ≤ n → n ≤ q → fA 23 ad s.heap.size q := fun n q h1 h2 => Or.inr (Nat.le_trans h1 h2)
  have hS : va_S (fA 23 ad s.heap.size) s.heap s.heap [] := va_S.rf
  have hA : ∀ q, s.heap.size ≤ q → (fA 23 ad s.heap.size) q := fun q h => Or.inr h
  unfold S_X2_open at hs
  have hl := lv_entry ([.ref (ad 9), .int a0]) (n := 2) (Nat.le_of_ble_eq_true rfl)
  rw [lg_entry_eq]
  generalize (lg_sl ([.ref (ad 9), .int a0]) ++ List.replicate (2 - (lg_sl ([.ref (ad 9), .int a0])).length) Slot.unset).toArray = ls at hl ⊢
  have hl : lv_has ls 2 [(0, .ref (ad 9)), (1, .int a0)] := hl
  refine W_gen (fun Q9 hQ9 => ?_)
  refine lv_aload_n hx hb dX2_open_0 rfl (lv_at hl 0 rfl) ?_
  refine va_get (D := (dC, dI)) (ci := 4) (v := .int Gd) (C := RX2) (T := TX2) (N := 5) hx hb hts iW_X2 hown hK hP 9 rfl rfl 3 (by decide) (hts _ mF_RX2_21) (fun _ h9 => h9) rfl dX2_open_1 ?_
  refine lv_if_lt (tgt := 49) hx hb dX2_open_4 (by decide) (fun c1 => ?_) (fun c1 => ?_)
  · have hs := hs.1 c1
    rw [hQ9]
    have hf : f_X2_open a0 Gf Gt Gd Gm = (Gf, Gt, Gd) := by simp only [f_X2_open, if_pos c1]
    exact W.vret hx hb hr (fun t ht hW => ⟨⟨(), rfl, True.intro, by rw [hf]; show va_P (dC, dI) vwCl _ t.heap; rw [ht]; exact hP⟩, hS.F ht⟩) hS.2.2 dX2_open_49
  · have hs := hs.2 c1
    refine lv_aload_n hx hb dX2_open_7 rfl (lv_at hl 0 rfl) ?_
    refine va_get (D := (dC, dI)) (ci := 4) (v := .int Gd) (C := RX2) (T := TX2) (N := 5) hx hb hts iW_X2 hown hK hP 9 rfl rfl 3 (by decide) (hts _ mF_RX2_21) (fun _ h9 => h9) rfl dX2_open_8 ?_
    refine lv_bipush (v := 20) hx hb dX2_open_11 (by decide) ?_
    refine lv_icmp_ge (tgt := 49) hx hb dX2_open_13 (by decide) (fun c2 => ?_) (fun c2 => ?_)
    · have hs := hs.1 c2
      rw [hQ9]
      have hf : f_X2_open a0 Gf Gt Gd Gm = (Gf, Gt, Gd) := by simp only [f_X2_open, if_neg c1, if_pos c2]
      exact W.vret hx hb hr (fun t ht hW => ⟨⟨(), rfl, True.intro, by rw [hf]; show va_P (dC, dI) vwCl _ t.heap; rw [ht]; exact hP⟩, hS.F ht⟩) hS.2.2 dX2_open_49
    · have hs := hs.2 c2
      refine lv_aload_n hx hb dX2_open_16 rfl (lv_at hl 0 rfl) ?_
      refine va_get (D := (dC, dI)) (ci := 4) (v := .ref (ad 10)) (C := RX2) (T := TX2) (N := 5) hx hb hts iW_X2 hown hK hP 9 rfl rfl 0 (by decide) (hts _ mF_RX2_9) (fun _ h9 => h9) rfl dX2_open_17 ?_
      refine lv_aload_n hx hb dX2_open_20 rfl (lv_at hl 0 rfl) ?_
      refine va_get (D := (dC, dI)) (ci := 4) (v := .int Gd) (C := RX2) (T := TX2) (N := 5) hx hb hts iW_X2 hown hK hP 9 rfl rfl 3 (by decide) (hts _ mF_RX2_21) (fun _ h9 => h9) rfl dX2_open_21 ?_
      refine lv_iload_n hx hb dX2_open_24 rfl (lv_at hl 1 rfl) ?_
      obtain ⟨h3, hs⟩ := hs
      refine va_iast hx hb hK hP (fA_D hi rfl) hS 10 0 rfl rfl h3 dX2_open_25 (fun H locs hP _ hS => ?_)
      have hP : va_P (dC, dI) vwCl (wC ad cI cJ Bc Bl Pk Pr Pl Pc Pm (upd Gf Gd.toNatClampNeg a0) Gt Gx Gd Gm Ek Er Ea Ex Em Eb Et Ss Sm Wg Wr Md) H := hP
      refine lv_aload_n hx hb dX2_open_26 rfl (lv_at hl 0 rfl) ?_
      refine va_get (D := (dC, dI)) (ci := 4) (v := .ref (ad 11)) (C := RX2) (T := TX2) (N := 5) hx hb hts iW_X2 hown hK hP 9 rfl rfl 1 (by decide) (hts _ mF_RX2_15) (fun _ h9 => h9) rfl dX2_open_27 ?_
      refine lv_aload_n hx hb dX2_open_30 rfl (lv_at hl 0 rfl) ?_
      refine va_get (D := (dC, dI)) (ci := 4) (v := .int Gd) (C := RX2) (T := TX2) (N := 5) hx hb hts iW_X2 hown hK hP 9 rfl rfl 3 (by decide) (hts _ mF_RX2_21) (fun _ h9 => h9) rfl dX2_open_31 ?_
      refine lv_aload_n hx hb dX2_open_34 rfl (lv_at hl 0 rfl) ?_
      refine va_get (D := (dC, dI)) (ci := 4) (v := .int Gm) (C := RX2) (T := TX2) (N := 5) hx hb hts iW_X2 hown hK hP 9 rfl rfl 4 (by decide) (hts _ mF_RX2_25) (fun _ h9 => h9) rfl dX2_open_35 ?_
      obtain ⟨h4, hs⟩ := hs
      refine va_iast hx hb hK hP (fA_D hi rfl) hS 11 0 rfl rfl h4 dX2_open_38 (fun H locs hP _ hS => ?_)
      have hP : va_P (dC, dI) vwCl (wC ad cI cJ Bc Bl Pk Pr Pl Pc Pm (upd Gf Gd.toNatClampNeg a0) (upd Gt Gd.toNatClampNeg Gm) Gx Gd Gm Ek Er Ea Ex Em Eb Et Ss Sm Wg Wr Md) H := hP
      refine lv_aload_n hx hb dX2_open_39 rfl (lv_at hl 0 rfl) ?_
      refine lv_dup hx hb dX2_open_40 rfl ?_
      refine va_get (D := (dC, dI)) (ci := 4) (v := .int Gd) (C := RX2) (T := TX2) (N := 5) hx hb hts iW_X2 hown hK hP 9 rfl rfl 3 (by decide) (hts _ mF_RX2_21) (fun _ h9 => h9) rfl dX2_open_41 ?_
      refine lv_iconst (v := 1) hx hb dX2_open_44 (by decide) ?_
      refine lv_iadd hx hb dX2_open_45 ?_
      refine va_put (D := (dC, dI)) (ci := 4) (v := .int (Gd + (1 : Int32))) (ty := .int) (C := RX2) (T := TX2) (N := 5) hx hb hts iW_X2 tyX2 tyX2_ok nmX2 hown hK hP (fA_D hi rfl) hS 9 rfl rfl 3 (by decide) (hts _ mF_RX2_21) (fun _ h9 => h9) rfl (by decide +kernel) rfl rfl (Nat.le_of_ble_eq_true rfl) dX2_open_46 (fun H locs hP _ hS => ?_)
      have hP : va_P (dC, dI) vwCl (wC ad cI cJ Bc Bl Pk Pr Pl Pc Pm (upd Gf Gd.toNatClampNeg a0) (upd Gt Gd.toNatClampNeg Gm) Gx (Gd + (1 : Int32)) Gm Ek Er Ea Ex Em Eb Et Ss Sm Wg Wr Md) H := hP
      rw [hQ9]
      have hf : f_X2_open a0 Gf Gt Gd Gm = ((upd Gf Gd.toNatClampNeg a0), (upd Gt Gd.toNatClampNeg Gm), (Gd + (1 : Int32))) := by simp only [f_X2_open, if_neg c1, if_neg c2]
      exact W.vret hx hb hr (fun t ht hW => ⟨⟨(), rfl, True.intro, by rw [hf]; show va_P (dC, dI) vwCl _ t.heap; rw [ht]; exact hP⟩, hS.F ht⟩) hS.2.2 dX2_open_49
theorem q_X2_open {p : Program} {l : Launch} {e : Env} {R : Room} {s : State} {m : MethodId} {args : Array Value} {below : List Frame} {meth : Method} {c : Code} {H : Heap} {locs : List Loc} {cells slots : Nat} {Q : State → Prop} {pc : Nat} {ls : Array Slot} {rest : List Value} {cc : ByteArray} {nL idx : Nat} {own : String} {A0 : Nat → Prop} {dC : Nat → ClassId} {dI : Nat → Nat → Nat} {cI cJ : ClassId} {ad : Nat → Nat} {Bc : Nat → Int64} {Bl : Nat → Int32} {Pk : Nat → Int32} {Pr : Nat → Int32} {Pl : Nat → Int32} {Pc : Nat → Int64} {Pm : Int32} {Gf : Nat → Int32} {Gt : Nat → Int32} {Gx : Nat → Int32} {Gd : Int32} {Gm : Int32} {Ek : Nat → Int32} {Er : Nat → Int32} {Ea : Nat → Int32} {Ex : Nat → Int32} {Em : Int32} {Eb : Int32} {Et : Int32} {Ss : Nat → Int32} {Sm : Int32} {Wg : Nat → Int64} {Wr : Nat → Int64} {Md : Nat → Int64} (hx : p.tables.exec = Jvm.exec) (hb : c.code = cc) (hml : c.maxLocals = nL) (hown : s.vm.findClass own = some m.cls) (hts : ∀ w ∈ bigW, w.before args s = true) (hlk : Cond.methodLink own idx yX2_open ∈ bigW) (hR : 1 ≤ R.frames ∧ 21 ≤ R.locals) (hf : cells + 0 ≤ R.cells ∧ slots + 0 ≤ R.slots) (hz : ls.size = nL) (hw : (rest.map fun v => v.category).sum ≤ 8) (hS : va_S A0 s.heap H locs) (hd : decode cc pc = .ok (.invokevirtual idx, 3)) (hA : ∀ q, fA 23 ad H.size q → A0 q) (hi : fI 23 ad) (hK : va_K (dC, dI) vwCl [(cI, .int), (cJ, .long)] s) (hP : va_P (dC, dI) vwCl (wC ad cI cJ Bc Bl Pk Pr Pl Pc Pm Gf Gt Gx Gd Gm Ek Er Ea Ex Em Eb Et Ss Sm Wg Wr Md) H) (a0 : Int32) (hs : S_X2_open a0 Gf Gt Gd Gm)  (u : (Nat → Int32) × (Nat → Int32) × Int32) (hu : u = f_X2_open a0 Gf Gt Gd Gm) (k : ∀ (H1 : Heap) (locs1 : List Loc), va_P (dC, dI) vwCl (wC ad cI cJ Bc Bl Pk Pr Pl Pc Pm u.1 u.2.1 Gx u.2.2 Gm Ek Er Ea Ex Em Eb Et Ss Sm Wg Wr Md) H1 → va_S A0 s.heap H1 locs1 → W p l e R s m args below meth c H1 locs1 (cells + 0) (slots + 0) Q (F0 m (pc + 3) ls (rest))) : W p l e R s m args below meth c H locs cells slots Q (F0 m pc ls (.int a0 :: .ref (ad 9) :: rest)) := by
  subst hu
  exact va_callv (va_runV (As := [.int a0]) (rest := rest) ⟨hx, hb, hml, hown, hts⟩ (c_X2_open l dC dI cI cJ ad hi H.size Bc Bl Pk Pr Pl Pc Pm Gf Gt Gx Gd Gm Ek Er Ea Ex Em Eb Et Ss Sm Wg Wr Md a0 hs) (kV 1 hts hlk mI_X2_open mN_RX2 mY_X2_open mV_X2_open rfl rfl (by decide +kernel) hR) ⟨fun a U g mk q => ⟨q.1, q.2.1, q.2.2.1, va_K.moved (u := U) (U := U.calling g mk a) (Vm.Alike.refl U.vm) q.2.2.2⟩, va_recv hK hP (ci := 4) (q0 := 9) rfl rfl, fun U hU hW => ⟨rfl, by rw [hU], by rw [hU]; exact hP, va_K.moved hW.alike hK⟩⟩ rfl rfl hz rfl (lv_room hw) hd hf) hS (fun q _ h => hA q h) (fun q h => hA q h) (fun u t H1 locs1 ht hvm hw9 hB hz1 hk1 hS1 => by
    skip
    exact k H1 locs1 (by rw [← ht]; exact hB) hS1)

def f_X2_append (a0 : Int32) (Gx : Nat → Int32) (Gm : Int32) : (Nat → Int32) × Int32 := (if Gm < 0 then (Gx, Gm) else (if (60 : Int32) ≤ Gm then (Gx, Gm) else ((upd Gx Gm.toNatClampNeg a0), (Gm + (1 : Int32)))))
def S_X2_append (a0 : Int32) (Gx : Nat → Int32) (Gm : Int32) : Prop := (Gm < 0 → (True)) ∧ (¬ Gm < 0 → (((60 : Int32) ≤ Gm → (True)) ∧ (¬ (60 : Int32) ≤ Gm → ((vp_in Gm 60) ∧ (True)))))
set_option maxHeartbeats 4000000 in
set_option maxRecDepth 100000 in
theorem c_X2_append (l : Launch) (dC : Nat → ClassId) (dI : Nat → Nat → Nat) (cI cJ : ClassId) (ad : Nat → Nat) (hi : fI 23 ad) (sz : Nat) (Bc : Nat → Int64) (Bl : Nat → Int32) (Pk : Nat → Int32) (Pr : Nat → Int32) (Pl : Nat → Int32) (Pc : Nat → Int64) (Pm : Int32) (Gf : Nat → Int32) (Gt : Nat → Int32) (Gx : Nat → Int32) (Gd : Int32) (Gm : Int32) (Ek : Nat → Int32) (Er : Nat → Int32) (Ea : Nat → Int32) (Ex : Nat → Int32) (Em : Int32) (Eb : Int32) (Et : Int32) (Ss : Nat → Int32) (Sm : Int32) (Wg : Nat → Int64) (Wr : Nat → Int64) (Md : Nat → Int64) (a0 : Int32) (hs : S_X2_append a0 Gx Gm) : Met l yX2_append (mW yX2_append cX2_append 2 none) { frames := 0, cells := 0, slots := 0, locals := 0 } (va_Pc [.ref (ad 9), .int a0] (fun U => U.heap.size = sz ∧ va_P (dC, dI) vwCl (wC ad cI cJ Bc Bl Pk Pr Pl Pc Pm Gf Gt Gx Gd Gm Ek Er Ea Ex Em Eb Et Ss Sm Wg Wr Md) U.heap ∧ va_K (dC, dI) vwCl [(cI, .int), (cJ, .long)] U)) (va_Qv (fun (_ : Unit) => True) (fun _ t => va_P (dC, dI) vwCl (wC ad cI cJ Bc Bl Pk Pr Pl Pc Pm Gf Gt ((f_X2_append a0 Gx Gm).1) Gd ((f_X2_append a0 Gx Gm).2) Ek Er Ea Ex Em Eb Et Ss Sm Wg Wr Md) t.heap) (fA 23 ad sz)) 0 0 (fA 23 ad sz) := by
  refine Met.ofW (cc := cX2_append) (maxL := 2) (ret := none) (by decide) rfl ?_
  intro p e s m args below meth c s₁ B hml hv
  obtain ⟨rfl, hsz, hP, hK⟩ := hv
  have hx := B.exec
  have hb := B.bytes
  have hr := B.returns
  have hts := mW_hts (atoms_spec (ws := (mW yX2_append cX2_append 2 none)) B.pre)
  have hown : s.vm.findClass RX2 = some m.cls := findClass_of_methodNamed B.named
  have hlocks := B.notSynchronized
  subst hsz
  have hA : ∀ (n : Nat) (q : Nat), s.heap.size ≤ n → n ≤ q → fA 23 ad s.heap.size q := fun n q h1 h2 => Or.inr (Nat.le_trans h1 h2)
  have hS : va_S (fA 23 ad s.heap.size) s.heap s.heap [] := va_S.rf
  have hA : ∀ q, s.heap.size ≤ q → (fA 23 ad s.heap.size) q := fun q h => Or.inr h
  unfold S_X2_append at hs
  have hl := lv_entry ([.ref (ad 9), .int a0]) (n := 2) (Nat.le_of_ble_eq_true rfl)
  rw [lg_entry_eq]
  generalize (lg_sl ([.ref (ad 9), .int a0]) ++ List.replicate (2 - (lg_sl ([.ref (ad 9), .int a0])).length) Slot.unset).toArray = ls at hl ⊢
  have hl : lv_has ls 2 [(0, .ref (ad 9)), (1, .int a0)] := hl
  refine W_gen (fun Q9 hQ9 => ?_)
  refine lv_aload_n hx hb dX2_append_0 rfl (lv_at hl 0 rfl) ?_
  refine va_get (D := (dC, dI)) (ci := 4) (v := .int Gm) (C := RX2) (T := TX2) (N := 5) hx hb hts iW_X2 hown hK hP 9 rfl rfl 4 (by decide) (hts _ mF_RX2_25) (fun _ h9 => h9) rfl dX2_append_1 ?_
  refine lv_if_lt (tgt := 36) hx hb dX2_append_4 (by decide) (fun c1 => ?_) (fun c1 => ?_)
  · have hs := hs.1 c1
    rw [hQ9]
    have hf : f_X2_append a0 Gx Gm = (Gx, Gm) := by simp only [f_X2_append, if_pos c1]
    exact W.vret hx hb hr (fun t ht hW => ⟨⟨(), rfl, True.intro, by rw [hf]; show va_P (dC, dI) vwCl _ t.heap; rw [ht]; exact hP⟩, hS.F ht⟩) hS.2.2 dX2_append_36
  · have hs := hs.2 c1
    refine lv_aload_n hx hb dX2_append_7 rfl (lv_at hl 0 rfl) ?_
    refine va_get (D := (dC, dI)) (ci := 4) (v := .int Gm) (C := RX2) (T := TX2) (N := 5) hx hb hts iW_X2 hown hK hP 9 rfl rfl 4 (by decide) (hts _ mF_RX2_25) (fun _ h9 => h9) rfl dX2_append_8 ?_
    refine lv_bipush (v := 60) hx hb dX2_append_11 (by decide) ?_
    refine lv_icmp_ge (tgt := 36) hx hb dX2_append_13 (by decide) (fun c2 => ?_) (fun c2 => ?_)
    · have hs := hs.1 c2
      rw [hQ9]
      have hf : f_X2_append a0 Gx Gm = (Gx, Gm) := by simp only [f_X2_append, if_neg c1, if_pos c2]
      exact W.vret hx hb hr (fun t ht hW => ⟨⟨(), rfl, True.intro, by rw [hf]; show va_P (dC, dI) vwCl _ t.heap; rw [ht]; exact hP⟩, hS.F ht⟩) hS.2.2 dX2_append_36
    · have hs := hs.2 c2
      refine lv_aload_n hx hb dX2_append_16 rfl (lv_at hl 0 rfl) ?_
      refine va_get (D := (dC, dI)) (ci := 4) (v := .ref (ad 12)) (C := RX2) (T := TX2) (N := 5) hx hb hts iW_X2 hown hK hP 9 rfl rfl 2 (by decide) (hts _ mF_RX2_18) (fun _ h9 => h9) rfl dX2_append_17 ?_
      refine lv_aload_n hx hb dX2_append_20 rfl (lv_at hl 0 rfl) ?_
      refine va_get (D := (dC, dI)) (ci := 4) (v := .int Gm) (C := RX2) (T := TX2) (N := 5) hx hb hts iW_X2 hown hK hP 9 rfl rfl 4 (by decide) (hts _ mF_RX2_25) (fun _ h9 => h9) rfl dX2_append_21 ?_
      refine lv_iload_n hx hb dX2_append_24 rfl (lv_at hl 1 rfl) ?_
      obtain ⟨h3, hs⟩ := hs
      refine va_iast hx hb hK hP (fA_D hi rfl) hS 12 0 rfl rfl h3 dX2_append_25 (fun H locs hP _ hS => ?_)
      have hP : va_P (dC, dI) vwCl (wC ad cI cJ Bc Bl Pk Pr Pl Pc Pm Gf Gt (upd Gx Gm.toNatClampNeg a0) Gd Gm Ek Er Ea Ex Em Eb Et Ss Sm Wg Wr Md) H := hP
      refine lv_aload_n hx hb dX2_append_26 rfl (lv_at hl 0 rfl) ?_
      refine lv_dup hx hb dX2_append_27 rfl ?_
      refine va_get (D := (dC, dI)) (ci := 4) (v := .int Gm) (C := RX2) (T := TX2) (N := 5) hx hb hts iW_X2 hown hK hP 9 rfl rfl 4 (by decide) (hts _ mF_RX2_25) (fun _ h9 => h9) rfl dX2_append_28 ?_
      refine lv_iconst (v := 1) hx hb dX2_append_31 (by decide) ?_
      refine lv_iadd hx hb dX2_append_32 ?_
      refine va_put (D := (dC, dI)) (ci := 4) (v := .int (Gm + (1 : Int32))) (ty := .int) (C := RX2) (T := TX2) (N := 5) hx hb hts iW_X2 tyX2 tyX2_ok nmX2 hown hK hP (fA_D hi rfl) hS 9 rfl rfl 4 (by decide) (hts _ mF_RX2_25) (fun _ h9 => h9) rfl (by decide +kernel) rfl rfl (Nat.le_of_ble_eq_true rfl) dX2_append_33 (fun H locs hP _ hS => ?_)
      have hP : va_P (dC, dI) vwCl (wC ad cI cJ Bc Bl Pk Pr Pl Pc Pm Gf Gt (upd Gx Gm.toNatClampNeg a0) Gd (Gm + (1 : Int32)) Ek Er Ea Ex Em Eb Et Ss Sm Wg Wr Md) H := hP
      rw [hQ9]
      have hf : f_X2_append a0 Gx Gm = ((upd Gx Gm.toNatClampNeg a0), (Gm + (1 : Int32))) := by simp only [f_X2_append, if_neg c1, if_neg c2]
      exact W.vret hx hb hr (fun t ht hW => ⟨⟨(), rfl, True.intro, by rw [hf]; show va_P (dC, dI) vwCl _ t.heap; rw [ht]; exact hP⟩, hS.F ht⟩) hS.2.2 dX2_append_36
theorem q_X2_append {p : Program} {l : Launch} {e : Env} {R : Room} {s : State} {m : MethodId} {args : Array Value} {below : List Frame} {meth : Method} {c : Code} {H : Heap} {locs : List Loc} {cells slots : Nat} {Q : State → Prop} {pc : Nat} {ls : Array Slot} {rest : List Value} {cc : ByteArray} {nL idx : Nat} {own : String} {A0 : Nat → Prop} {dC : Nat → ClassId} {dI : Nat → Nat → Nat} {cI cJ : ClassId} {ad : Nat → Nat} {Bc : Nat → Int64} {Bl : Nat → Int32} {Pk : Nat → Int32} {Pr : Nat → Int32} {Pl : Nat → Int32} {Pc : Nat → Int64} {Pm : Int32} {Gf : Nat → Int32} {Gt : Nat → Int32} {Gx : Nat → Int32} {Gd : Int32} {Gm : Int32} {Ek : Nat → Int32} {Er : Nat → Int32} {Ea : Nat → Int32} {Ex : Nat → Int32} {Em : Int32} {Eb : Int32} {Et : Int32} {Ss : Nat → Int32} {Sm : Int32} {Wg : Nat → Int64} {Wr : Nat → Int64} {Md : Nat → Int64} (hx : p.tables.exec = Jvm.exec) (hb : c.code = cc) (hml : c.maxLocals = nL) (hown : s.vm.findClass own = some m.cls) (hts : ∀ w ∈ bigW, w.before args s = true) (hlk : Cond.methodLink own idx yX2_append ∈ bigW) (hR : 1 ≤ R.frames ∧ 21 ≤ R.locals) (hf : cells + 0 ≤ R.cells ∧ slots + 0 ≤ R.slots) (hz : ls.size = nL) (hw : (rest.map fun v => v.category).sum ≤ 8) (hS : va_S A0 s.heap H locs) (hd : decode cc pc = .ok (.invokevirtual idx, 3)) (hA : ∀ q, fA 23 ad H.size q → A0 q) (hi : fI 23 ad) (hK : va_K (dC, dI) vwCl [(cI, .int), (cJ, .long)] s) (hP : va_P (dC, dI) vwCl (wC ad cI cJ Bc Bl Pk Pr Pl Pc Pm Gf Gt Gx Gd Gm Ek Er Ea Ex Em Eb Et Ss Sm Wg Wr Md) H) (a0 : Int32) (hs : S_X2_append a0 Gx Gm)  (u : (Nat → Int32) × Int32) (hu : u = f_X2_append a0 Gx Gm) (k : ∀ (H1 : Heap) (locs1 : List Loc), va_P (dC, dI) vwCl (wC ad cI cJ Bc Bl Pk Pr Pl Pc Pm Gf Gt u.1 Gd u.2 Ek Er Ea Ex Em Eb Et Ss Sm Wg Wr Md) H1 → va_S A0 s.heap H1 locs1 → W p l e R s m args below meth c H1 locs1 (cells + 0) (slots + 0) Q (F0 m (pc + 3) ls (rest))) : W p l e R s m args below meth c H locs cells slots Q (F0 m pc ls (.int a0 :: .ref (ad 9) :: rest)) := by
  subst hu
  exact va_callv (va_runV (As := [.int a0]) (rest := rest) ⟨hx, hb, hml, hown, hts⟩ (c_X2_append l dC dI cI cJ ad hi H.size Bc Bl Pk Pr Pl Pc Pm Gf Gt Gx Gd Gm Ek Er Ea Ex Em Eb Et Ss Sm Wg Wr Md a0 hs) (kV 1 hts hlk mI_X2_append mN_RX2 mY_X2_append mV_X2_append rfl rfl (by decide +kernel) hR) ⟨fun a U g mk q => ⟨q.1, q.2.1, q.2.2.1, va_K.moved (u := U) (U := U.calling g mk a) (Vm.Alike.refl U.vm) q.2.2.2⟩, va_recv hK hP (ci := 4) (q0 := 9) rfl rfl, fun U hU hW => ⟨rfl, by rw [hU], by rw [hU]; exact hP, va_K.moved hW.alike hK⟩⟩ rfl rfl hz rfl (lv_room hw) hd hf) hS (fun q _ h => hA q h) (fun q h => hA q h) (fun u t H1 locs1 ht hvm hw9 hB hz1 hk1 hS1 => by
    skip
    exact k H1 locs1 (by rw [← ht]; exact hB) hS1)

def f_X2_firstKept (Gf : Nat → Int32) (Gd : Int32) : Int32 := (if Gd ≤ 0 then (0 : Int32) else (if (20 : Int32) < Gd then (0 : Int32) else (Gf (Gd - (1 : Int32)).toNatClampNeg)))
def S_X2_firstKept (Gf : Nat → Int32) (Gd : Int32) : Prop := (Gd ≤ 0 → (True)) ∧ (¬ Gd ≤ 0 → (((20 : Int32) < Gd → (True)) ∧ (¬ (20 : Int32) < Gd → ((vp_in (Gd - (1 : Int32)) 20) ∧ (True)))))
set_option maxHeartbeats 4000000 in
set_option maxRecDepth 100000 in
theorem c_X2_firstKept (l : Launch) (dC : Nat → ClassId) (dI : Nat → Nat → Nat) (cI cJ : ClassId) (ad : Nat → Nat) (hi : fI 23 ad) (sz : Nat) (Bc : Nat → Int64) (Bl : Nat → Int32) (Pk : Nat → Int32) (Pr : Nat → Int32) (Pl : Nat → Int32) (Pc : Nat → Int64) (Pm : Int32) (Gf : Nat → Int32) (Gt : Nat → Int32) (Gx : Nat → Int32) (Gd : Int32) (Gm : Int32) (Ek : Nat → Int32) (Er : Nat → Int32) (Ea : Nat → Int32) (Ex : Nat → Int32) (Em : Int32) (Eb : Int32) (Et : Int32) (Ss : Nat → Int32) (Sm : Int32) (Wg : Nat → Int64) (Wr : Nat → Int64) (Md : Nat → Int64) (hs : S_X2_firstKept Gf Gd) : Met l yX2_firstKept (mW yX2_firstKept cX2_firstKept 1 (some .int)) { frames := 0, cells := 0, slots := 0, locals := 0 } (va_Pc [.ref (ad 9)] (fun U => U.heap.size = sz ∧ va_P (dC, dI) vwCl (wC ad cI cJ Bc Bl Pk Pr Pl Pc Pm Gf Gt Gx Gd Gm Ek Er Ea Ex Em Eb Et Ss Sm Wg Wr Md) U.heap ∧ va_K (dC, dI) vwCl [(cI, .int), (cJ, .long)] U)) (va_Qi (fun (r : Int32) (_ : Unit) => r = f_X2_firstKept Gf Gd) (fun _ t => va_P (dC, dI) vwCl (wC ad cI cJ Bc Bl Pk Pr Pl Pc Pm Gf Gt Gx Gd Gm Ek Er Ea Ex Em Eb Et Ss Sm Wg Wr Md) t.heap) (fA 23 ad sz)) 0 0 (fA 23 ad sz) := by
  refine Met.ofW (cc := cX2_firstKept) (maxL := 1) (ret := (some .int)) (by decide) rfl ?_
  intro p e s m args below meth c s₁ B hml hv
  obtain ⟨rfl, hsz, hP, hK⟩ := hv
  have hx := B.exec
  have hb := B.bytes
  have hr := B.returns
  have hts := mW_hts (atoms_spec (ws := (mW yX2_firstKept cX2_firstKept 1 (some .int))) B.pre)
  have hown : s.vm.findClass RX2 = some m.cls := findClass_of_methodNamed B.named
  have hlocks := B.notSynchronized
  subst hsz
  have hA : ∀ (n : Nat) (q : Nat), s.heap.size ≤ n → n ≤ q → fA 23 ad s.heap.size q := fun n q h1 h2 => Or.inr (Nat.le_trans h1 h2)
  have hS : va_S (fA 23 ad s.heap.size) s.heap s.heap [] := va_S.rf
  have hA : ∀ q, s.heap.size ≤ q → (fA 23 ad s.heap.size) q := fun q h => Or.inr h
  unfold S_X2_firstKept at hs
  have hl := lv_entry ([.ref (ad 9)]) (n := 1) (Nat.le_of_ble_eq_true rfl)
  rw [lg_entry_eq]
  generalize (lg_sl ([.ref (ad 9)]) ++ List.replicate (1 - (lg_sl ([.ref (ad 9)])).length) Slot.unset).toArray = ls at hl ⊢
  have hl : lv_has ls 1 [(0, .ref (ad 9))] := hl
  refine W_gen (fun Q9 hQ9 => ?_)
  refine lv_aload_n hx hb dX2_firstKept_0 rfl (lv_at hl 0 rfl) ?_
  refine va_get (D := (dC, dI)) (ci := 4) (v := .int Gd) (C := RX2) (T := TX2) (N := 5) hx hb hts iW_X2 hown hK hP 9 rfl rfl 3 (by decide) (hts _ mF_RX2_21) (fun _ h9 => h9) rfl dX2_firstKept_1 ?_
  refine lv_if_le (tgt := 30) hx hb dX2_firstKept_4 (by decide) (fun c1 => ?_) (fun c1 => ?_)
  · have hs := hs.1 c1
    refine lv_iconst (v := 0) hx hb dX2_firstKept_30 (by decide) ?_
    rw [hQ9]
    have hf : f_X2_firstKept Gf Gd = (0 : Int32) := by simp only [f_X2_firstKept, if_pos c1]
    exact W.iret (v := (0 : Int32)) hx hb hr (fun t ht hW => ⟨⟨(0 : Int32), (), rfl, by rw [hf], by show va_P (dC, dI) vwCl _ t.heap; rw [ht]; exact hP⟩, hS.F ht⟩) hS.2.2 dX2_firstKept_31
  · have hs := hs.2 c1
    refine lv_aload_n hx hb dX2_firstKept_7 rfl (lv_at hl 0 rfl) ?_
    refine va_get (D := (dC, dI)) (ci := 4) (v := .int Gd) (C := RX2) (T := TX2) (N := 5) hx hb hts iW_X2 hown hK hP 9 rfl rfl 3 (by decide) (hts _ mF_RX2_21) (fun _ h9 => h9) rfl dX2_firstKept_8 ?_
    refine lv_bipush (v := 20) hx hb dX2_firstKept_11 (by decide) ?_
    refine lv_icmp_gt (tgt := 30) hx hb dX2_firstKept_13 (by decide) (fun c2 => ?_) (fun c2 => ?_)
    · have hs := hs.1 c2
      refine lv_iconst (v := 0) hx hb dX2_firstKept_30 (by decide) ?_
      rw [hQ9]
      have hf : f_X2_firstKept Gf Gd = (0 : Int32) := by simp only [f_X2_firstKept, if_neg c1, if_pos c2]
      exact W.iret (v := (0 : Int32)) hx hb hr (fun t ht hW => ⟨⟨(0 : Int32), (), rfl, by rw [hf], by show va_P (dC, dI) vwCl _ t.heap; rw [ht]; exact hP⟩, hS.F ht⟩) hS.2.2 dX2_firstKept_31
    · have hs := hs.2 c2
      refine lv_aload_n hx hb dX2_firstKept_16 rfl (lv_at hl 0 rfl) ?_
      refine va_get (D := (dC, dI)) (ci := 4) (v := .ref (ad 10)) (C := RX2) (T := TX2) (N := 5) hx hb hts iW_X2 hown hK hP 9 rfl rfl 0 (by decide) (hts _ mF_RX2_9) (fun _ h9 => h9) rfl dX2_firstKept_17 ?_
      refine lv_aload_n hx hb dX2_firstKept_20 rfl (lv_at hl 0 rfl) ?_
      refine va_get (D := (dC, dI)) (ci := 4) (v := .int Gd) (C := RX2) (T := TX2) (N := 5) hx hb hts iW_X2 hown hK hP 9 rfl rfl 3 (by decide) (hts _ mF_RX2_21) (fun _ h9 => h9) rfl dX2_firstKept_21 ?_
      refine lv_iconst (v := 1) hx hb dX2_firstKept_24 (by decide) ?_
      refine lv_isub hx hb dX2_firstKept_25 ?_
      obtain ⟨h3, hs⟩ := hs
      refine va_iald hx hb hK hP 10 0 rfl rfl h3 dX2_firstKept_26 ?_
      refine lv_goto (tgt := 31) hx hb dX2_firstKept_27 (by decide) ?_
      rw [hQ9]
      have hf : f_X2_firstKept Gf Gd = (Gf (Gd - (1 : Int32)).toNatClampNeg) := by simp only [f_X2_firstKept, if_neg c1, if_neg c2]
      exact W.iret (v := (Gf (Gd - (1 : Int32)).toNatClampNeg)) hx hb hr (fun t ht hW => ⟨⟨(Gf (Gd - (1 : Int32)).toNatClampNeg), (), rfl, by rw [hf], by show va_P (dC, dI) vwCl _ t.heap; rw [ht]; exact hP⟩, hS.F ht⟩) hS.2.2 dX2_firstKept_31
theorem q_X2_firstKept {p : Program} {l : Launch} {e : Env} {R : Room} {s : State} {m : MethodId} {args : Array Value} {below : List Frame} {meth : Method} {c : Code} {H : Heap} {locs : List Loc} {cells slots : Nat} {Q : State → Prop} {pc : Nat} {ls : Array Slot} {rest : List Value} {cc : ByteArray} {nL idx : Nat} {own : String} {A0 : Nat → Prop} {dC : Nat → ClassId} {dI : Nat → Nat → Nat} {cI cJ : ClassId} {ad : Nat → Nat} {Bc : Nat → Int64} {Bl : Nat → Int32} {Pk : Nat → Int32} {Pr : Nat → Int32} {Pl : Nat → Int32} {Pc : Nat → Int64} {Pm : Int32} {Gf : Nat → Int32} {Gt : Nat → Int32} {Gx : Nat → Int32} {Gd : Int32} {Gm : Int32} {Ek : Nat → Int32} {Er : Nat → Int32} {Ea : Nat → Int32} {Ex : Nat → Int32} {Em : Int32} {Eb : Int32} {Et : Int32} {Ss : Nat → Int32} {Sm : Int32} {Wg : Nat → Int64} {Wr : Nat → Int64} {Md : Nat → Int64} (hx : p.tables.exec = Jvm.exec) (hb : c.code = cc) (hml : c.maxLocals = nL) (hown : s.vm.findClass own = some m.cls) (hts : ∀ w ∈ bigW, w.before args s = true) (hlk : Cond.methodLink own idx yX2_firstKept ∈ bigW) (hR : 1 ≤ R.frames ∧ 20 ≤ R.locals) (hf : cells + 0 ≤ R.cells ∧ slots + 0 ≤ R.slots) (hz : ls.size = nL) (hw : (rest.map fun v => v.category).sum ≤ 8) (hS : va_S A0 s.heap H locs) (hd : decode cc pc = .ok (.invokevirtual idx, 3)) (hA : ∀ q, fA 23 ad H.size q → A0 q) (hi : fI 23 ad) (hK : va_K (dC, dI) vwCl [(cI, .int), (cJ, .long)] s) (hP : va_P (dC, dI) vwCl (wC ad cI cJ Bc Bl Pk Pr Pl Pc Pm Gf Gt Gx Gd Gm Ek Er Ea Ex Em Eb Et Ss Sm Wg Wr Md) H) (hs : S_X2_firstKept Gf Gd)  (u : Int32) (hu : u = f_X2_firstKept Gf Gd) (k : ∀ (H1 : Heap) (locs1 : List Loc), va_P (dC, dI) vwCl (wC ad cI cJ Bc Bl Pk Pr Pl Pc Pm Gf Gt Gx Gd Gm Ek Er Ea Ex Em Eb Et Ss Sm Wg Wr Md) H1 → va_S A0 s.heap H1 locs1 → W p l e R s m args below meth c H1 locs1 (cells + 0) (slots + 0) Q (F0 m (pc + 3) ls (.int u :: rest))) : W p l e R s m args below meth c H locs cells slots Q (F0 m pc ls (.ref (ad 9) :: rest)) := by
  subst hu
  exact va_calli (va_runV (As := []) (rest := rest) ⟨hx, hb, hml, hown, hts⟩ (c_X2_firstKept l dC dI cI cJ ad hi H.size Bc Bl Pk Pr Pl Pc Pm Gf Gt Gx Gd Gm Ek Er Ea Ex Em Eb Et Ss Sm Wg Wr Md hs) (kV 0 hts hlk mI_X2_firstKept mN_RX2 mY_X2_firstKept mV_X2_firstKept rfl rfl (by decide +kernel) hR) ⟨fun a U g mk q => ⟨q.1, q.2.1, q.2.2.1, va_K.moved (u := U) (U := U.calling g mk a) (Vm.Alike.refl U.vm) q.2.2.2⟩, va_recv hK hP (ci := 4) (q0 := 9) rfl rfl, fun U hU hW => ⟨rfl, by rw [hU], by rw [hU]; exact hP, va_K.moved hW.alike hK⟩⟩ rfl rfl hz rfl (lv_room hw) hd hf) hS (fun q _ h => hA q h) (fun q h => hA q h) (fun r u t H1 locs1 ht hvm hw9 hB hz1 hk1 hS1 => by
    subst hw9
    exact k H1 locs1 (by rw [← ht]; exact hB) hS1)

def f_X2_firstToken (Gt : Nat → Int32) (Gd : Int32) : Int32 := (if Gd ≤ 0 then (0 : Int32) else (if (20 : Int32) < Gd then (0 : Int32) else (Gt (Gd - (1 : Int32)).toNatClampNeg)))
def S_X2_firstToken (Gt : Nat → Int32) (Gd : Int32) : Prop := (Gd ≤ 0 → (True)) ∧ (¬ Gd ≤ 0 → (((20 : Int32) < Gd → (True)) ∧ (¬ (20 : Int32) < Gd → ((vp_in (Gd - (1 : Int32)) 20) ∧ (True)))))
set_option maxHeartbeats 4000000 in
set_option maxRecDepth 100000 in
theorem c_X2_firstToken (l : Launch) (dC : Nat → ClassId) (dI : Nat → Nat → Nat) (cI cJ : ClassId) (ad : Nat → Nat) (hi : fI 23 ad) (sz : Nat) (Bc : Nat → Int64) (Bl : Nat → Int32) (Pk : Nat → Int32) (Pr : Nat → Int32) (Pl : Nat → Int32) (Pc : Nat → Int64) (Pm : Int32) (Gf : Nat → Int32) (Gt : Nat → Int32) (Gx : Nat → Int32) (Gd : Int32) (Gm : Int32) (Ek : Nat → Int32) (Er : Nat → Int32) (Ea : Nat → Int32) (Ex : Nat → Int32) (Em : Int32) (Eb : Int32) (Et : Int32) (Ss : Nat → Int32) (Sm : Int32) (Wg : Nat → Int64) (Wr : Nat → Int64) (Md : Nat → Int64) (hs : S_X2_firstToken Gt Gd) : Met l yX2_firstToken (mW yX2_firstToken cX2_firstToken 1 (some .int)) { frames := 0, cells := 0, slots := 0, locals := 0 } (va_Pc [.ref (ad 9)] (fun U => U.heap.size = sz ∧ va_P (dC, dI) vwCl (wC ad cI cJ Bc Bl Pk Pr Pl Pc Pm Gf Gt Gx Gd Gm Ek Er Ea Ex Em Eb Et Ss Sm Wg Wr Md) U.heap ∧ va_K (dC, dI) vwCl [(cI, .int), (cJ, .long)] U)) (va_Qi (fun (r : Int32) (_ : Unit) => r = f_X2_firstToken Gt Gd) (fun _ t => va_P (dC, dI) vwCl (wC ad cI cJ Bc Bl Pk Pr Pl Pc Pm Gf Gt Gx Gd Gm Ek Er Ea Ex Em Eb Et Ss Sm Wg Wr Md) t.heap) (fA 23 ad sz)) 0 0 (fA 23 ad sz) := by
  refine Met.ofW (cc := cX2_firstToken) (maxL := 1) (ret := (some .int)) (by decide) rfl ?_
  intro p e s m args below meth c s₁ B hml hv
  obtain ⟨rfl, hsz, hP, hK⟩ := hv
  have hx := B.exec
  have hb := B.bytes
  have hr := B.returns
  have hts := mW_hts (atoms_spec (ws := (mW yX2_firstToken cX2_firstToken 1 (some .int))) B.pre)
  have hown : s.vm.findClass RX2 = some m.cls := findClass_of_methodNamed B.named
  have hlocks := B.notSynchronized
  subst hsz
  have hA : ∀ (n : Nat) (q : Nat), s.heap.size ≤ n → n ≤ q → fA 23 ad s.heap.size q := fun n q h1 h2 => Or.inr (Nat.le_trans h1 h2)
  have hS : va_S (fA 23 ad s.heap.size) s.heap s.heap [] := va_S.rf
  have hA : ∀ q, s.heap.size ≤ q → (fA 23 ad s.heap.size) q := fun q h => Or.inr h
  unfold S_X2_firstToken at hs
  have hl := lv_entry ([.ref (ad 9)]) (n := 1) (Nat.le_of_ble_eq_true rfl)
  rw [lg_entry_eq]
  generalize (lg_sl ([.ref (ad 9)]) ++ List.replicate (1 - (lg_sl ([.ref (ad 9)])).length) Slot.unset).toArray = ls at hl ⊢
  have hl : lv_has ls 1 [(0, .ref (ad 9))] := hl
  refine W_gen (fun Q9 hQ9 => ?_)
  refine lv_aload_n hx hb dX2_firstToken_0 rfl (lv_at hl 0 rfl) ?_
  refine va_get (D := (dC, dI)) (ci := 4) (v := .int Gd) (C := RX2) (T := TX2) (N := 5) hx hb hts iW_X2 hown hK hP 9 rfl rfl 3 (by decide) (hts _ mF_RX2_21) (fun _ h9 => h9) rfl dX2_firstToken_1 ?_
  refine lv_if_le (tgt := 30) hx hb dX2_firstToken_4 (by decide) (fun c1 => ?_) (fun c1 => ?_)
  · have hs := hs.1 c1
    refine lv_iconst (v := 0) hx hb dX2_firstToken_30 (by decide) ?_
    rw [hQ9]
    have hf : f_X2_firstToken Gt Gd = (0 : Int32) := by simp only [f_X2_firstToken, if_pos c1]
    exact W.iret (v := (0 : Int32)) hx hb hr (fun t ht hW => ⟨⟨(0 : Int32), (), rfl, by rw [hf], by show va_P (dC, dI) vwCl _ t.heap; rw [ht]; exact hP⟩, hS.F ht⟩) hS.2.2 dX2_firstToken_31
  · have hs := hs.2 c1
    refine lv_aload_n hx hb dX2_firstToken_7 rfl (lv_at hl 0 rfl) ?_
    refine va_get (D := (dC, dI)) (ci := 4) (v := .int Gd) (C := RX2) (T := TX2) (N := 5) hx hb hts iW_X2 hown hK hP 9 rfl rfl 3 (by decide) (hts _ mF_RX2_21) (fun _ h9 => h9) rfl dX2_firstToken_8 ?_
    refine lv_bipush (v := 20) hx hb dX2_firstToken_11 (by decide) ?_
    refine lv_icmp_gt (tgt := 30) hx hb dX2_firstToken_13 (by decide) (fun c2 => ?_) (fun c2 => ?_)
    · have hs := hs.1 c2
      refine lv_iconst (v := 0) hx hb dX2_firstToken_30 (by decide) ?_
      rw [hQ9]
      have hf : f_X2_firstToken Gt Gd = (0 : Int32) := by simp only [f_X2_firstToken, if_neg c1, if_pos c2]
      exact W.iret (v := (0 : Int32)) hx hb hr (fun t ht hW => ⟨⟨(0 : Int32), (), rfl, by rw [hf], by show va_P (dC, dI) vwCl _ t.heap; rw [ht]; exact hP⟩, hS.F ht⟩) hS.2.2 dX2_firstToken_31
    · have hs := hs.2 c2
      refine lv_aload_n hx hb dX2_firstToken_16 rfl (lv_at hl 0 rfl) ?_
      refine va_get (D := (dC, dI)) (ci := 4) (v := .ref (ad 11)) (C := RX2) (T := TX2) (N := 5) hx hb hts iW_X2 hown hK hP 9 rfl rfl 1 (by decide) (hts _ mF_RX2_15) (fun _ h9 => h9) rfl dX2_firstToken_17 ?_
      refine lv_aload_n hx hb dX2_firstToken_20 rfl (lv_at hl 0 rfl) ?_
      refine va_get (D := (dC, dI)) (ci := 4) (v := .int Gd) (C := RX2) (T := TX2) (N := 5) hx hb hts iW_X2 hown hK hP 9 rfl rfl 3 (by decide) (hts _ mF_RX2_21) (fun _ h9 => h9) rfl dX2_firstToken_21 ?_
      refine lv_iconst (v := 1) hx hb dX2_firstToken_24 (by decide) ?_
      refine lv_isub hx hb dX2_firstToken_25 ?_
      obtain ⟨h3, hs⟩ := hs
      refine va_iald hx hb hK hP 11 0 rfl rfl h3 dX2_firstToken_26 ?_
      refine lv_goto (tgt := 31) hx hb dX2_firstToken_27 (by decide) ?_
      rw [hQ9]
      have hf : f_X2_firstToken Gt Gd = (Gt (Gd - (1 : Int32)).toNatClampNeg) := by simp only [f_X2_firstToken, if_neg c1, if_neg c2]
      exact W.iret (v := (Gt (Gd - (1 : Int32)).toNatClampNeg)) hx hb hr (fun t ht hW => ⟨⟨(Gt (Gd - (1 : Int32)).toNatClampNeg), (), rfl, by rw [hf], by show va_P (dC, dI) vwCl _ t.heap; rw [ht]; exact hP⟩, hS.F ht⟩) hS.2.2 dX2_firstToken_31
theorem q_X2_firstToken {p : Program} {l : Launch} {e : Env} {R : Room} {s : State} {m : MethodId} {args : Array Value} {below : List Frame} {meth : Method} {c : Code} {H : Heap} {locs : List Loc} {cells slots : Nat} {Q : State → Prop} {pc : Nat} {ls : Array Slot} {rest : List Value} {cc : ByteArray} {nL idx : Nat} {own : String} {A0 : Nat → Prop} {dC : Nat → ClassId} {dI : Nat → Nat → Nat} {cI cJ : ClassId} {ad : Nat → Nat} {Bc : Nat → Int64} {Bl : Nat → Int32} {Pk : Nat → Int32} {Pr : Nat → Int32} {Pl : Nat → Int32} {Pc : Nat → Int64} {Pm : Int32} {Gf : Nat → Int32} {Gt : Nat → Int32} {Gx : Nat → Int32} {Gd : Int32} {Gm : Int32} {Ek : Nat → Int32} {Er : Nat → Int32} {Ea : Nat → Int32} {Ex : Nat → Int32} {Em : Int32} {Eb : Int32} {Et : Int32} {Ss : Nat → Int32} {Sm : Int32} {Wg : Nat → Int64} {Wr : Nat → Int64} {Md : Nat → Int64} (hx : p.tables.exec = Jvm.exec) (hb : c.code = cc) (hml : c.maxLocals = nL) (hown : s.vm.findClass own = some m.cls) (hts : ∀ w ∈ bigW, w.before args s = true) (hlk : Cond.methodLink own idx yX2_firstToken ∈ bigW) (hR : 1 ≤ R.frames ∧ 20 ≤ R.locals) (hf : cells + 0 ≤ R.cells ∧ slots + 0 ≤ R.slots) (hz : ls.size = nL) (hw : (rest.map fun v => v.category).sum ≤ 8) (hS : va_S A0 s.heap H locs) (hd : decode cc pc = .ok (.invokevirtual idx, 3)) (hA : ∀ q, fA 23 ad H.size q → A0 q) (hi : fI 23 ad) (hK : va_K (dC, dI) vwCl [(cI, .int), (cJ, .long)] s) (hP : va_P (dC, dI) vwCl (wC ad cI cJ Bc Bl Pk Pr Pl Pc Pm Gf Gt Gx Gd Gm Ek Er Ea Ex Em Eb Et Ss Sm Wg Wr Md) H) (hs : S_X2_firstToken Gt Gd)  (u : Int32) (hu : u = f_X2_firstToken Gt Gd) (k : ∀ (H1 : Heap) (locs1 : List Loc), va_P (dC, dI) vwCl (wC ad cI cJ Bc Bl Pk Pr Pl Pc Pm Gf Gt Gx Gd Gm Ek Er Ea Ex Em Eb Et Ss Sm Wg Wr Md) H1 → va_S A0 s.heap H1 locs1 → W p l e R s m args below meth c H1 locs1 (cells + 0) (slots + 0) Q (F0 m (pc + 3) ls (.int u :: rest))) : W p l e R s m args below meth c H locs cells slots Q (F0 m pc ls (.ref (ad 9) :: rest)) := by
  subst hu
  exact va_calli (va_runV (As := []) (rest := rest) ⟨hx, hb, hml, hown, hts⟩ (c_X2_firstToken l dC dI cI cJ ad hi H.size Bc Bl Pk Pr Pl Pc Pm Gf Gt Gx Gd Gm Ek Er Ea Ex Em Eb Et Ss Sm Wg Wr Md hs) (kV 0 hts hlk mI_X2_firstToken mN_RX2 mY_X2_firstToken mV_X2_firstToken rfl rfl (by decide +kernel) hR) ⟨fun a U g mk q => ⟨q.1, q.2.1, q.2.2.1, va_K.moved (u := U) (U := U.calling g mk a) (Vm.Alike.refl U.vm) q.2.2.2⟩, va_recv hK hP (ci := 4) (q0 := 9) rfl rfl, fun U hU hW => ⟨rfl, by rw [hU], by rw [hU]; exact hP, va_K.moved hW.alike hK⟩⟩ rfl rfl hz rfl (lv_room hw) hd hf) hS (fun q _ h => hA q h) (fun q h => hA q h) (fun r u t H1 locs1 ht hvm hw9 hB hz1 hk1 hS1 => by
    subst hw9
    exact k H1 locs1 (by rw [← ht]; exact hB) hS1)

def f_X2_close (Gt : Nat → Int32) (Gd : Int32) (Gm : Int32) : Int32 × Int32 := (if Gd ≤ 0 then (Gd, Gm) else (let u3 := f_X2_firstToken Gt Gd; ((Gd - (1 : Int32)), u3)))
def S_X2_close (Gt : Nat → Int32) (Gd : Int32) (Gm : Int32) : Prop := (Gd ≤ 0 → (True)) ∧ (¬ Gd ≤ 0 → ((S_X2_firstToken Gt Gd) ∧ (∀ u3, u3 = f_X2_firstToken Gt Gd → (True))))
set_option maxHeartbeats 4000000 in
set_option maxRecDepth 100000 in
theorem c_X2_close (l : Launch) (dC : Nat → ClassId) (dI : Nat → Nat → Nat) (cI cJ : ClassId) (ad : Nat → Nat) (hi : fI 23 ad) (sz : Nat) (Bc : Nat → Int64) (Bl : Nat → Int32) (Pk : Nat → Int32) (Pr : Nat → Int32) (Pl : Nat → Int32) (Pc : Nat → Int64) (Pm : Int32) (Gf : Nat → Int32) (Gt : Nat → Int32) (Gx : Nat → Int32) (Gd : Int32) (Gm : Int32) (Ek : Nat → Int32) (Er : Nat → Int32) (Ea : Nat → Int32) (Ex : Nat → Int32) (Em : Int32) (Eb : Int32) (Et : Int32) (Ss : Nat → Int32) (Sm : Int32) (Wg : Nat → Int64) (Wr : Nat → Int64) (Md : Nat → Int64) (hs : S_X2_close Gt Gd Gm) : Met l yX2_close (mW yX2_close cX2_close 1 none) { frames := 1, cells := 0, slots := 0, locals := 20 } (va_Pc [.ref (ad 9)] (fun U => U.heap.size = sz ∧ va_P (dC, dI) vwCl (wC ad cI cJ Bc Bl Pk Pr Pl Pc Pm Gf Gt Gx Gd Gm Ek Er Ea Ex Em Eb Et Ss Sm Wg Wr Md) U.heap ∧ va_K (dC, dI) vwCl [(cI, .int), (cJ, .long)] U)) (va_Qv (fun (_ : Unit) => True) (fun _ t => va_P (dC, dI) vwCl (wC ad cI cJ Bc Bl Pk Pr Pl Pc Pm Gf Gt Gx ((f_X2_close Gt Gd Gm).1) ((f_X2_close Gt Gd Gm).2) Ek Er Ea Ex Em Eb Et Ss Sm Wg Wr Md) t.heap) (fA 23 ad sz)) 0 0 (fA 23 ad sz) := by
  refine Met.ofW (cc := cX2_close) (maxL := 1) (ret := none) (by decide) rfl ?_
  intro p e s m args below meth c s₁ B hml hv
  obtain ⟨rfl, hsz, hP, hK⟩ := hv
  have hx := B.exec
  have hb := B.bytes
  have hr := B.returns
  have hts := mW_hts (atoms_spec (ws := (mW yX2_close cX2_close 1 none)) B.pre)
  have hown : s.vm.findClass RX2 = some m.cls := findClass_of_methodNamed B.named
  have hlocks := B.notSynchronized
  subst hsz
  have hA : ∀ (n : Nat) (q : Nat), s.heap.size ≤ n → n ≤ q → fA 23 ad s.heap.size q := fun n q h1 h2 => Or.inr (Nat.le_trans h1 h2)
  have hS : va_S (fA 23 ad s.heap.size) s.heap s.heap [] := va_S.rf
  have hA : ∀ q, s.heap.size ≤ q → (fA 23 ad s.heap.size) q := fun q h => Or.inr h
  unfold S_X2_close at hs
  have hl := lv_entry ([.ref (ad 9)]) (n := 1) (Nat.le_of_ble_eq_true rfl)
  rw [lg_entry_eq]
  generalize (lg_sl ([.ref (ad 9)]) ++ List.replicate (1 - (lg_sl ([.ref (ad 9)])).length) Slot.unset).toArray = ls at hl ⊢
  have hl : lv_has ls 1 [(0, .ref (ad 9))] := hl
  refine W_gen (fun Q9 hQ9 => ?_)
  refine lv_aload_n hx hb dX2_close_0 rfl (lv_at hl 0 rfl) ?_
  refine va_get (D := (dC, dI)) (ci := 4) (v := .int Gd) (C := RX2) (T := TX2) (N := 5) hx hb hts iW_X2 hown hK hP 9 rfl rfl 3 (by decide) (hts _ mF_RX2_21) (fun _ h9 => h9) rfl dX2_close_1 ?_
  refine lv_if_le (tgt := 25) hx hb dX2_close_4 (by decide) (fun c1 => ?_) (fun c1 => ?_)
  · have hs := hs.1 c1
    rw [hQ9]
    have hf : f_X2_close Gt Gd Gm = (Gd, Gm) := by simp only [f_X2_close, if_pos c1]
    exact W.vret hx hb hr (fun t ht hW => ⟨⟨(), rfl, True.intro, by rw [hf]; show va_P (dC, dI) vwCl _ t.heap; rw [ht]; exact hP⟩, hS.F ht⟩) hS.2.2 dX2_close_25
  · have hs := hs.2 c1
    refine lv_aload_n hx hb dX2_close_7 rfl (lv_at hl 0 rfl) ?_
    refine lv_aload_n hx hb dX2_close_8 rfl (lv_at hl 0 rfl) ?_
    obtain ⟨h2, hs⟩ := hs
    obtain ⟨u3, hu3⟩ : ∃ z, z = f_X2_firstToken Gt Gd := ⟨_, rfl⟩
    have hs := hs u3 hu3
    refine q_X2_firstToken hx hb hml hown hts mM_RX2_28 ⟨Nat.le_of_ble_eq_true rfl, Nat.le_of_ble_eq_true rfl⟩ ⟨Nat.le_of_ble_eq_true rfl, Nat.le_of_ble_eq_true rfl⟩ hl.1 (Nat.le_of_ble_eq_true rfl) hS dX2_close_9 (fun _ h9 => fA_mono hS.1 h9) hi hK hP h2 u3 hu3 (fun H locs hP hS => ?_)
    refine va_put (D := (dC, dI)) (ci := 4) (v := .int u3) (ty := .int) (C := RX2) (T := TX2) (N := 5) hx hb hts iW_X2 tyX2 tyX2_ok nmX2 hown hK hP (fA_D hi rfl) hS 9 rfl rfl 4 (by decide) (hts _ mF_RX2_25) (fun _ h9 => h9) rfl (by decide +kernel) rfl rfl (Nat.le_of_ble_eq_true rfl) dX2_close_12 (fun H locs hP _ hS => ?_)
    have hP : va_P (dC, dI) vwCl (wC ad cI cJ Bc Bl Pk Pr Pl Pc Pm Gf Gt Gx Gd u3 Ek Er Ea Ex Em Eb Et Ss Sm Wg Wr Md) H := hP
    refine lv_aload_n hx hb dX2_close_15 rfl (lv_at hl 0 rfl) ?_
    refine lv_dup hx hb dX2_close_16 rfl ?_
    refine va_get (D := (dC, dI)) (ci := 4) (v := .int Gd) (C := RX2) (T := TX2) (N := 5) hx hb hts iW_X2 hown hK hP 9 rfl rfl 3 (by decide) (hts _ mF_RX2_21) (fun _ h9 => h9) rfl dX2_close_17 ?_
    refine lv_iconst (v := 1) hx hb dX2_close_20 (by decide) ?_
    refine lv_isub hx hb dX2_close_21 ?_
    refine va_put (D := (dC, dI)) (ci := 4) (v := .int (Gd - (1 : Int32))) (ty := .int) (C := RX2) (T := TX2) (N := 5) hx hb hts iW_X2 tyX2 tyX2_ok nmX2 hown hK hP (fA_D hi rfl) hS 9 rfl rfl 3 (by decide) (hts _ mF_RX2_21) (fun _ h9 => h9) rfl (by decide +kernel) rfl rfl (Nat.le_of_ble_eq_true rfl) dX2_close_22 (fun H locs hP _ hS => ?_)
    have hP : va_P (dC, dI) vwCl (wC ad cI cJ Bc Bl Pk Pr Pl Pc Pm Gf Gt Gx (Gd - (1 : Int32)) u3 Ek Er Ea Ex Em Eb Et Ss Sm Wg Wr Md) H := hP
    rw [hQ9]
    have hf : f_X2_close Gt Gd Gm = ((Gd - (1 : Int32)), u3) := by simp only [f_X2_close, if_neg c1, ← hu3]
    exact W.vret hx hb hr (fun t ht hW => ⟨⟨(), rfl, True.intro, by rw [hf]; show va_P (dC, dI) vwCl _ t.heap; rw [ht]; exact hP⟩, hS.F ht⟩) hS.2.2 dX2_close_25
theorem q_X2_close {p : Program} {l : Launch} {e : Env} {R : Room} {s : State} {m : MethodId} {args : Array Value} {below : List Frame} {meth : Method} {c : Code} {H : Heap} {locs : List Loc} {cells slots : Nat} {Q : State → Prop} {pc : Nat} {ls : Array Slot} {rest : List Value} {cc : ByteArray} {nL idx : Nat} {own : String} {A0 : Nat → Prop} {dC : Nat → ClassId} {dI : Nat → Nat → Nat} {cI cJ : ClassId} {ad : Nat → Nat} {Bc : Nat → Int64} {Bl : Nat → Int32} {Pk : Nat → Int32} {Pr : Nat → Int32} {Pl : Nat → Int32} {Pc : Nat → Int64} {Pm : Int32} {Gf : Nat → Int32} {Gt : Nat → Int32} {Gx : Nat → Int32} {Gd : Int32} {Gm : Int32} {Ek : Nat → Int32} {Er : Nat → Int32} {Ea : Nat → Int32} {Ex : Nat → Int32} {Em : Int32} {Eb : Int32} {Et : Int32} {Ss : Nat → Int32} {Sm : Int32} {Wg : Nat → Int64} {Wr : Nat → Int64} {Md : Nat → Int64} (hx : p.tables.exec = Jvm.exec) (hb : c.code = cc) (hml : c.maxLocals = nL) (hown : s.vm.findClass own = some m.cls) (hts : ∀ w ∈ bigW, w.before args s = true) (hlk : Cond.methodLink own idx yX2_close ∈ bigW) (hR : 2 ≤ R.frames ∧ 40 ≤ R.locals) (hf : cells + 0 ≤ R.cells ∧ slots + 0 ≤ R.slots) (hz : ls.size = nL) (hw : (rest.map fun v => v.category).sum ≤ 8) (hS : va_S A0 s.heap H locs) (hd : decode cc pc = .ok (.invokevirtual idx, 3)) (hA : ∀ q, fA 23 ad H.size q → A0 q) (hi : fI 23 ad) (hK : va_K (dC, dI) vwCl [(cI, .int), (cJ, .long)] s) (hP : va_P (dC, dI) vwCl (wC ad cI cJ Bc Bl Pk Pr Pl Pc Pm Gf Gt Gx Gd Gm Ek Er Ea Ex Em Eb Et Ss Sm Wg Wr Md) H) (hs : S_X2_close Gt Gd Gm)  (u : Int32 × Int32) (hu : u = f_X2_close Gt Gd Gm) (k : ∀ (H1 : Heap) (locs1 : List Loc), va_P (dC, dI) vwCl (wC ad cI cJ Bc Bl Pk Pr Pl Pc Pm Gf Gt Gx u.1 u.2 Ek Er Ea Ex Em Eb Et Ss Sm Wg Wr Md) H1 → va_S A0 s.heap H1 locs1 → W p l e R s m args below meth c H1 locs1 (cells + 0) (slots + 0) Q (F0 m (pc + 3) ls (rest))) : W p l e R s m args below meth c H locs cells slots Q (F0 m pc ls (.ref (ad 9) :: rest)) := by
  subst hu
  exact va_callv (va_runV (As := []) (rest := rest) ⟨hx, hb, hml, hown, hts⟩ (c_X2_close l dC dI cI cJ ad hi H.size Bc Bl Pk Pr Pl Pc Pm Gf Gt Gx Gd Gm Ek Er Ea Ex Em Eb Et Ss Sm Wg Wr Md hs) (kV 0 hts hlk mI_X2_close mN_RX2 mY_X2_close mV_X2_close rfl rfl (by decide +kernel) hR) ⟨fun a U g mk q => ⟨q.1, q.2.1, q.2.2.1, va_K.moved (u := U) (U := U.calling g mk a) (Vm.Alike.refl U.vm) q.2.2.2⟩, va_recv hK hP (ci := 4) (q0 := 9) rfl rfl, fun U hU hW => ⟨rfl, by rw [hU], by rw [hU]; exact hP, va_K.moved hW.alike hK⟩⟩ rfl rfl hz rfl (lv_room hw) hd hf) hS (fun q _ h => hA q h) (fun q h => hA q h) (fun u t H1 locs1 ht hvm hw9 hB hz1 hk1 hS1 => by
    skip
    exact k H1 locs1 (by rw [← ht]; exact hB) hS1)

def f_X1_clear (Em : Int32) (Eb : Int32) (Et : Int32) : Int32 × Int32 × Int32 := ((0 : Int32), (0 : Int32), (0 : Int32))
set_option maxHeartbeats 4000000 in
set_option maxRecDepth 100000 in
theorem c_X1_clear (l : Launch) (dC : Nat → ClassId) (dI : Nat → Nat → Nat) (cI cJ : ClassId) (ad : Nat → Nat) (hi : fI 23 ad) (sz : Nat) (Bc : Nat → Int64) (Bl : Nat → Int32) (Pk : Nat → Int32) (Pr : Nat → Int32) (Pl : Nat → Int32) (Pc : Nat → Int64) (Pm : Int32) (Gf : Nat → Int32) (Gt : Nat → Int32) (Gx : Nat → Int32) (Gd : Int32) (Gm : Int32) (Ek : Nat → Int32) (Er : Nat → Int32) (Ea : Nat → Int32) (Ex : Nat → Int32) (Em : Int32) (Eb : Int32) (Et : Int32) (Ss : Nat → Int32) (Sm : Int32) (Wg : Nat → Int64) (Wr : Nat → Int64) (Md : Nat → Int64) : Met l yX1_clear (mW yX1_clear cX1_clear 1 none) { frames := 0, cells := 0, slots := 0, locals := 0 } (va_Pc [.ref (ad 13)] (fun U => U.heap.size = sz ∧ va_P (dC, dI) vwCl (wC ad cI cJ Bc Bl Pk Pr Pl Pc Pm Gf Gt Gx Gd Gm Ek Er Ea Ex Em Eb Et Ss Sm Wg Wr Md) U.heap ∧ va_K (dC, dI) vwCl [(cI, .int), (cJ, .long)] U)) (va_Qv (fun (_ : Unit) => True) (fun _ t => va_P (dC, dI) vwCl (wC ad cI cJ Bc Bl Pk Pr Pl Pc Pm Gf Gt Gx Gd Gm Ek Er Ea Ex ((f_X1_clear Em Eb Et).1) ((f_X1_clear Em Eb Et).2.1) ((f_X1_clear Em Eb Et).2.2) Ss Sm Wg Wr Md) t.heap) (fA 23 ad sz)) 0 0 (fA 23 ad sz) := by
  refine Met.ofW (cc := cX1_clear) (maxL := 1) (ret := none) (by decide) rfl ?_
  intro p e s m args below meth c s₁ B hml hv
  obtain ⟨rfl, hsz, hP, hK⟩ := hv
  have hx := B.exec
  have hb := B.bytes
  have hr := B.returns
  have hts := mW_hts (atoms_spec (ws := (mW yX1_clear cX1_clear 1 none)) B.pre)
  have hown : s.vm.findClass RX1 = some m.cls := findClass_of_methodNamed B.named
  have hlocks := B.notSynchronized
  subst hsz
  have hA : ∀ (n : Nat) (q : Nat), s.heap.size ≤ n → n ≤ q → fA 23 ad s.heap.size q := fun n q h1 h2 => Or.inr (Nat.le_trans h1 h2)
  have hS : va_S (fA 23 ad s.heap.size) s.heap s.heap [] := va_S.rf
  have hA : ∀ q, s.heap.size ≤ q → (fA 23 ad s.heap.size) q := fun q h => Or.inr h
  have hl := lv_entry ([.ref (ad 13)]) (n := 1) (Nat.le_of_ble_eq_true rfl)
  rw [lg_entry_eq]
  generalize (lg_sl ([.ref (ad 13)]) ++ List.replicate (1 - (lg_sl ([.ref (ad 13)])).length) Slot.unset).toArray = ls at hl ⊢
  have hl : lv_has ls 1 [(0, .ref (ad 13))] := hl
  refine W_gen (fun Q9 hQ9 => ?_)
  refine lv_aload_n hx hb dX1_clear_0 rfl (lv_at hl 0 rfl) ?_
  refine lv_iconst (v := 0) hx hb dX1_clear_1 (by decide) ?_
  refine va_put (D := (dC, dI)) (ci := 3) (v := .int (0 : Int32)) (ty := .int) (C := RX1) (T := TX1) (N := 7) hx hb hts iW_X1 tyX1 tyX1_ok nmX1 hown hK hP (fA_D hi rfl) hS 13 rfl rfl 4 (by decide) (hts _ mF_RX1_24) (fun _ h9 => h9) rfl (by decide +kernel) rfl rfl (Nat.le_of_ble_eq_true rfl) dX1_clear_2 (fun H locs hP _ hS => ?_)
  have hP : va_P (dC, dI) vwCl (wC ad cI cJ Bc Bl Pk Pr Pl Pc Pm Gf Gt Gx Gd Gm Ek Er Ea Ex (0 : Int32) Eb Et Ss Sm Wg Wr Md) H := hP
  refine lv_aload_n hx hb dX1_clear_5 rfl (lv_at hl 0 rfl) ?_
  refine lv_iconst (v := 0) hx hb dX1_clear_6 (by decide) ?_
  refine va_put (D := (dC, dI)) (ci := 3) (v := .int (0 : Int32)) (ty := .int) (C := RX1) (T := TX1) (N := 7) hx hb hts iW_X1 tyX1 tyX1_ok nmX1 hown hK hP (fA_D hi rfl) hS 13 rfl rfl 5 (by decide) (hts _ mF_RX1_28) (fun _ h9 => h9) rfl (by decide +kernel) rfl rfl (Nat.le_of_ble_eq_true rfl) dX1_clear_7 (fun H locs hP _ hS => ?_)
  have hP : va_P (dC, dI) vwCl (wC ad cI cJ Bc Bl Pk Pr Pl Pc Pm Gf Gt Gx Gd Gm Ek Er Ea Ex (0 : Int32) (0 : Int32) Et Ss Sm Wg Wr Md) H := hP
  refine lv_aload_n hx hb dX1_clear_10 rfl (lv_at hl 0 rfl) ?_
  refine lv_iconst (v := 0) hx hb dX1_clear_11 (by decide) ?_
  refine va_put (D := (dC, dI)) (ci := 3) (v := .int (0 : Int32)) (ty := .int) (C := RX1) (T := TX1) (N := 7) hx hb hts iW_X1 tyX1 tyX1_ok nmX1 hown hK hP (fA_D hi rfl) hS 13 rfl rfl 6 (by decide) (hts _ mF_RX1_31) (fun _ h9 => h9) rfl (by decide +kernel) rfl rfl (Nat.le_of_ble_eq_true rfl) dX1_clear_12 (fun H locs hP _ hS => ?_)
  have hP : va_P (dC, dI) vwCl (wC ad cI cJ Bc Bl Pk Pr Pl Pc Pm Gf Gt Gx Gd Gm Ek Er Ea Ex (0 : Int32) (0 : Int32) (0 : Int32) Ss Sm Wg Wr Md) H := hP
  rw [hQ9]
  have hf : f_X1_clear Em Eb Et = ((0 : Int32), (0 : Int32), (0 : Int32)) := by simp only [f_X1_clear]
  exact W.vret hx hb hr (fun t ht hW => ⟨⟨(), rfl, True.intro, by rw [hf]; show va_P (dC, dI) vwCl _ t.heap; rw [ht]; exact hP⟩, hS.F ht⟩) hS.2.2 dX1_clear_15
theorem q_X1_clear {p : Program} {l : Launch} {e : Env} {R : Room} {s : State} {m : MethodId} {args : Array Value} {below : List Frame} {meth : Method} {c : Code} {H : Heap} {locs : List Loc} {cells slots : Nat} {Q : State → Prop} {pc : Nat} {ls : Array Slot} {rest : List Value} {cc : ByteArray} {nL idx : Nat} {own : String} {A0 : Nat → Prop} {dC : Nat → ClassId} {dI : Nat → Nat → Nat} {cI cJ : ClassId} {ad : Nat → Nat} {Bc : Nat → Int64} {Bl : Nat → Int32} {Pk : Nat → Int32} {Pr : Nat → Int32} {Pl : Nat → Int32} {Pc : Nat → Int64} {Pm : Int32} {Gf : Nat → Int32} {Gt : Nat → Int32} {Gx : Nat → Int32} {Gd : Int32} {Gm : Int32} {Ek : Nat → Int32} {Er : Nat → Int32} {Ea : Nat → Int32} {Ex : Nat → Int32} {Em : Int32} {Eb : Int32} {Et : Int32} {Ss : Nat → Int32} {Sm : Int32} {Wg : Nat → Int64} {Wr : Nat → Int64} {Md : Nat → Int64} (hx : p.tables.exec = Jvm.exec) (hb : c.code = cc) (hml : c.maxLocals = nL) (hown : s.vm.findClass own = some m.cls) (hts : ∀ w ∈ bigW, w.before args s = true) (hlk : Cond.methodLink own idx yX1_clear ∈ bigW) (hR : 1 ≤ R.frames ∧ 20 ≤ R.locals) (hf : cells + 0 ≤ R.cells ∧ slots + 0 ≤ R.slots) (hz : ls.size = nL) (hw : (rest.map fun v => v.category).sum ≤ 8) (hS : va_S A0 s.heap H locs) (hd : decode cc pc = .ok (.invokevirtual idx, 3)) (hA : ∀ q, fA 23 ad H.size q → A0 q) (hi : fI 23 ad) (hK : va_K (dC, dI) vwCl [(cI, .int), (cJ, .long)] s) (hP : va_P (dC, dI) vwCl (wC ad cI cJ Bc Bl Pk Pr Pl Pc Pm Gf Gt Gx Gd Gm Ek Er Ea Ex Em Eb Et Ss Sm Wg Wr Md) H)  (u : Int32 × Int32 × Int32) (hu : u = f_X1_clear Em Eb Et) (k : ∀ (H1 : Heap) (locs1 : List Loc), va_P (dC, dI) vwCl (wC ad cI cJ Bc Bl Pk Pr Pl Pc Pm Gf Gt Gx Gd Gm Ek Er Ea Ex u.1 u.2.1 u.2.2 Ss Sm Wg Wr Md) H1 → va_S A0 s.heap H1 locs1 → W p l e R s m args below meth c H1 locs1 (cells + 0) (slots + 0) Q (F0 m (pc + 3) ls (rest))) : W p l e R s m args below meth c H locs cells slots Q (F0 m pc ls (.ref (ad 13) :: rest)) := by
  subst hu
  exact va_callv (va_runV (As := []) (rest := rest) ⟨hx, hb, hml, hown, hts⟩ (c_X1_clear l dC dI cI cJ ad hi H.size Bc Bl Pk Pr Pl Pc Pm Gf Gt Gx Gd Gm Ek Er Ea Ex Em Eb Et Ss Sm Wg Wr Md) (kV 0 hts hlk mI_X1_clear mN_RX1 mY_X1_clear mV_X1_clear rfl rfl (by decide +kernel) hR) ⟨fun a U g mk q => ⟨q.1, q.2.1, q.2.2.1, va_K.moved (u := U) (U := U.calling g mk a) (Vm.Alike.refl U.vm) q.2.2.2⟩, va_recv hK hP (ci := 3) (q0 := 13) rfl rfl, fun U hU hW => ⟨rfl, by rw [hU], by rw [hU]; exact hP, va_K.moved hW.alike hK⟩⟩ rfl rfl hz rfl (lv_room hw) hd hf) hS (fun q _ h => hA q h) (fun q h => hA q h) (fun u t H1 locs1 ht hvm hw9 hB hz1 hk1 hS1 => by
    skip
    exact k H1 locs1 (by rw [← ht]; exact hB) hS1)

def f_X1_append (a0 : Int32) (a1 : Int32) (a2 : Int32) (Ek : Nat → Int32) (Er : Nat → Int32) (Ea : Nat → Int32) (Em : Int32) (Eb : Int32) : (Nat → Int32) × (Nat → Int32) × (Nat → Int32) × Int32 × Int32 := (if Em < 0 then (Ek, Er, Ea, Em, Eb) else (if (200 : Int32) ≤ Em then (Ek, Er, Ea, Em, Eb) else (if a2 = 0 then ((upd Ek Em.toNatClampNeg a0), (upd Er Em.toNatClampNeg a1), (upd Ea Em.toNatClampNeg (0 : Int32)), (Em + (1 : Int32)), (Eb + ((upd Ea Em.toNatClampNeg (0 : Int32)) Em.toNatClampNeg))) else ((upd Ek Em.toNatClampNeg a0), (upd Er Em.toNatClampNeg a1), (upd Ea Em.toNatClampNeg (1 : Int32)), (Em + (1 : Int32)), (Eb + ((upd Ea Em.toNatClampNeg (1 : Int32)) Em.toNatClampNeg))))))
def S_X1_append (a0 : Int32) (a1 : Int32) (a2 : Int32) (Ek : Nat → Int32) (Er : Nat → Int32) (Ea : Nat → Int32) (Em : Int32) (Eb : Int32) : Prop := (Em < 0 → (True)) ∧ (¬ Em < 0 → (((200 : Int32) ≤ Em → (True)) ∧ (¬ (200 : Int32) ≤ Em → ((vp_in Em 200) ∧ ((vp_in Em 200) ∧ ((a2 = 0 → ((vp_in Em 200) ∧ ((vp_in Em 200) ∧ (True)))) ∧ (¬ a2 = 0 → ((vp_in Em 200) ∧ ((vp_in Em 200) ∧ (True))))))))))
set_option maxHeartbeats 4000000 in
set_option maxRecDepth 100000 in
theorem c_X1_append (l : Launch) (dC : Nat → ClassId) (dI : Nat → Nat → Nat) (cI cJ : ClassId) (ad : Nat → Nat) (hi : fI 23 ad) (sz : Nat) (Bc : Nat → Int64) (Bl : Nat → Int32) (Pk : Nat → Int32) (Pr : Nat → Int32) (Pl : Nat → Int32) (Pc : Nat → Int64) (Pm : Int32) (Gf : Nat → Int32) (Gt : Nat → Int32) (Gx : Nat → Int32) (Gd : Int32) (Gm : Int32) (Ek : Nat → Int32) (Er : Nat → Int32) (Ea : Nat → Int32) (Ex : Nat → Int32) (Em : Int32) (Eb : Int32) (Et : Int32) (Ss : Nat → Int32) (Sm : Int32) (Wg : Nat → Int64) (Wr : Nat → Int64) (Md : Nat → Int64) (a0 : Int32) (a1 : Int32) (a2 : Int32) (hs : S_X1_append a0 a1 a2 Ek Er Ea Em Eb) : Met l yX1_append (mW yX1_append cX1_append 4 none) { frames := 0, cells := 0, slots := 0, locals := 0 } (va_Pc [.ref (ad 13), .int a0, .int a1, .int a2] (fun U => U.heap.size = sz ∧ va_P (dC, dI) vwCl (wC ad cI cJ Bc Bl Pk Pr Pl Pc Pm Gf Gt Gx Gd Gm Ek Er Ea Ex Em Eb Et Ss Sm Wg Wr Md) U.heap ∧ va_K (dC, dI) vwCl [(cI, .int), (cJ, .long)] U)) (va_Qv (fun (_ : Unit) => True) (fun _ t => va_P (dC, dI) vwCl (wC ad cI cJ Bc Bl Pk Pr Pl Pc Pm Gf Gt Gx Gd Gm ((f_X1_append a0 a1 a2 Ek Er Ea Em Eb).1) ((f_X1_append a0 a1 a2 Ek Er Ea Em Eb).2.1) ((f_X1_append a0 a1 a2 Ek Er Ea Em Eb).2.2.1) Ex ((f_X1_append a0 a1 a2 Ek Er Ea Em Eb).2.2.2.1) ((f_X1_append a0 a1 a2 Ek Er Ea Em Eb).2.2.2.2) Et Ss Sm Wg Wr Md) t.heap) (fA 23 ad sz)) 0 0 (fA 23 ad sz) := by
  refine Met.ofW (cc := cX1_append) (maxL := 4) (ret := none) (by decide) rfl ?_
  intro p e s m args below meth c s₁ B hml hv
  obtain ⟨rfl, hsz, hP, hK⟩ := hv
  have hx := B.exec
  have hb := B.bytes
  have hr := B.returns
  have hts := mW_hts (atoms_spec (ws := (mW yX1_append cX1_append 4 none)) B.pre)
  have hown : s.vm.findClass RX1 = some m.cls := findClass_of_methodNamed B.named
  have hlocks := B.notSynchronized
  subst hsz
  have hA : ∀ (n : Nat) (q : Nat), s.heap.size ≤ n → n ≤ q → fA 23 ad s.heap.size q := fun n q h1 h2 => Or.inr (Nat.le_trans h1 h2)
  have hS : va_S (fA 23 ad s.heap.size) s.heap s.heap [] := va_S.rf
  have hA : ∀ q, s.heap.size ≤ q → (fA 23 ad s.heap.size) q := fun q h => Or.inr h
  unfold S_X1_append at hs
  have hl := lv_entry ([.ref (ad 13), .int a0, .int a1, .int a2]) (n := 4) (Nat.le_of_ble_eq_true rfl)
  rw [lg_entry_eq]
  generalize (lg_sl ([.ref (ad 13), .int a0, .int a1, .int a2]) ++ List.replicate (4 - (lg_sl ([.ref (ad 13), .int a0, .int a1, .int a2])).length) Slot.unset).toArray = ls at hl ⊢
  have hl : lv_has ls 4 [(0, .ref (ad 13)), (1, .int a0), (2, .int a1), (3, .int a2)] := hl
  refine W_gen (fun Q9 hQ9 => ?_)
  refine lv_aload_n hx hb dX1_append_0 rfl (lv_at hl 0 rfl) ?_
  refine va_get (D := (dC, dI)) (ci := 3) (v := .int Em) (C := RX1) (T := TX1) (N := 7) hx hb hts iW_X1 hown hK hP 13 rfl rfl 4 (by decide) (hts _ mF_RX1_24) (fun _ h9 => h9) rfl dX1_append_1 ?_
  refine lv_if_lt (tgt := 83) hx hb dX1_append_4 (by decide) (fun c1 => ?_) (fun c1 => ?_)
  · have hs := hs.1 c1
    rw [hQ9]
    have hf : f_X1_append a0 a1 a2 Ek Er Ea Em Eb = (Ek, Er, Ea, Em, Eb) := by simp only [f_X1_append, if_pos c1]
    exact W.vret hx hb hr (fun t ht hW => ⟨⟨(), rfl, True.intro, by rw [hf]; show va_P (dC, dI) vwCl _ t.heap; rw [ht]; exact hP⟩, hS.F ht⟩) hS.2.2 dX1_append_83
  · have hs := hs.2 c1
    refine lv_aload_n hx hb dX1_append_7 rfl (lv_at hl 0 rfl) ?_
    refine va_get (D := (dC, dI)) (ci := 3) (v := .int Em) (C := RX1) (T := TX1) (N := 7) hx hb hts iW_X1 hown hK hP 13 rfl rfl 4 (by decide) (hts _ mF_RX1_24) (fun _ h9 => h9) rfl dX1_append_8 ?_
    refine lv_sipush (v := 200) hx hb dX1_append_11 (by decide) ?_
    refine lv_icmp_ge (tgt := 83) hx hb dX1_append_14 (by decide) (fun c2 => ?_) (fun c2 => ?_)
    · have hs := hs.1 c2
      rw [hQ9]
      have hf : f_X1_append a0 a1 a2 Ek Er Ea Em Eb = (Ek, Er, Ea, Em, Eb) := by simp only [f_X1_append, if_neg c1, if_pos c2]
      exact W.vret hx hb hr (fun t ht hW => ⟨⟨(), rfl, True.intro, by rw [hf]; show va_P (dC, dI) vwCl _ t.heap; rw [ht]; exact hP⟩, hS.F ht⟩) hS.2.2 dX1_append_83
    · have hs := hs.2 c2
      refine lv_aload_n hx hb dX1_append_17 rfl (lv_at hl 0 rfl) ?_
      refine va_get (D := (dC, dI)) (ci := 3) (v := .ref (ad 14)) (C := RX1) (T := TX1) (N := 7) hx hb hts iW_X1 hown hK hP 13 rfl rfl 0 (by decide) (hts _ mF_RX1_9) (fun _ h9 => h9) rfl dX1_append_18 ?_
      refine lv_aload_n hx hb dX1_append_21 rfl (lv_at hl 0 rfl) ?_
      refine va_get (D := (dC, dI)) (ci := 3) (v := .int Em) (C := RX1) (T := TX1) (N := 7) hx hb hts iW_X1 hown hK hP 13 rfl rfl 4 (by decide) (hts _ mF_RX1_24) (fun _ h9 => h9) rfl dX1_append_22 ?_
      refine lv_iload_n hx hb dX1_append_25 rfl (lv_at hl 1 rfl) ?_
      obtain ⟨h3, hs⟩ := hs
      refine va_iast hx hb hK hP (fA_D hi rfl) hS 14 0 rfl rfl h3 dX1_append_26 (fun H locs hP _ hS => ?_)
      have hP : va_P (dC, dI) vwCl (wC ad cI cJ Bc Bl Pk Pr Pl Pc Pm Gf Gt Gx Gd Gm (upd Ek Em.toNatClampNeg a0) Er Ea Ex Em Eb Et Ss Sm Wg Wr Md) H := hP
      refine lv_aload_n hx hb dX1_append_27 rfl (lv_at hl 0 rfl) ?_
      refine va_get (D := (dC, dI)) (ci := 3) (v := .ref (ad 15)) (C := RX1) (T := TX1) (N := 7) hx hb hts iW_X1 hown hK hP 13 rfl rfl 1 (by decide) (hts _ mF_RX1_15) (fun _ h9 => h9) rfl dX1_append_28 ?_
      refine lv_aload_n hx hb dX1_append_31 rfl (lv_at hl 0 rfl) ?_
      refine va_get (D := (dC, dI)) (ci := 3) (v := .int Em) (C := RX1) (T := TX1) (N := 7) hx hb hts iW_X1 hown hK hP 13 rfl rfl 4 (by decide) (hts _ mF_RX1_24) (fun _ h9 => h9) rfl dX1_append_32 ?_
      refine lv_iload_n hx hb dX1_append_35 rfl (lv_at hl 2 rfl) ?_
      obtain ⟨h4, hs⟩ := hs
      refine va_iast hx hb hK hP (fA_D hi rfl) hS 15 0 rfl rfl h4 dX1_append_36 (fun H locs hP _ hS => ?_)
      have hP : va_P (dC, dI) vwCl (wC ad cI cJ Bc Bl Pk Pr Pl Pc Pm Gf Gt Gx Gd Gm (upd Ek Em.toNatClampNeg a0) (upd Er Em.toNatClampNeg a1) Ea Ex Em Eb Et Ss Sm Wg Wr Md) H := hP
      refine lv_aload_n hx hb dX1_append_37 rfl (lv_at hl 0 rfl) ?_
      refine va_get (D := (dC, dI)) (ci := 3) (v := .ref (ad 16)) (C := RX1) (T := TX1) (N := 7) hx hb hts iW_X1 hown hK hP 13 rfl rfl 2 (by decide) (hts _ mF_RX1_18) (fun _ h9 => h9) rfl dX1_append_38 ?_
      refine lv_aload_n hx hb dX1_append_41 rfl (lv_at hl 0 rfl) ?_
      refine va_get (D := (dC, dI)) (ci := 3) (v := .int Em) (C := RX1) (T := TX1) (N := 7) hx hb hts iW_X1 hown hK hP 13 rfl rfl 4 (by decide) (hts _ mF_RX1_24) (fun _ h9 => h9) rfl dX1_append_42 ?_
      refine lv_iload_n hx hb dX1_append_45 rfl (lv_at hl 3 rfl) ?_
      refine lv_if_eq (tgt := 53) hx hb dX1_append_46 (by decide) (fun c5 => ?_) (fun c5 => ?_)
      · have hs := hs.1 c5
        refine lv_iconst (v := 0) hx hb dX1_append_53 (by decide) ?_
        obtain ⟨h6, hs⟩ := hs
        refine va_iast hx hb hK hP (fA_D hi rfl) hS 16 0 rfl rfl h6 dX1_append_54 (fun H locs hP _ hS => ?_)
        have hP : va_P (dC, dI) vwCl (wC ad cI cJ Bc Bl Pk Pr Pl Pc Pm Gf Gt Gx Gd Gm (upd Ek Em.toNatClampNeg a0) (upd Er Em.toNatClampNeg a1) (upd Ea Em.toNatClampNeg (0 : Int32)) Ex Em Eb Et Ss Sm Wg Wr Md) H := hP
        refine lv_aload_n hx hb dX1_append_55 rfl (lv_at hl 0 rfl) ?_
        refine lv_dup hx hb dX1_append_56 rfl ?_
        refine va_get (D := (dC, dI)) (ci := 3) (v := .int Eb) (C := RX1) (T := TX1) (N := 7) hx hb hts iW_X1 hown hK hP 13 rfl rfl 5 (by decide) (hts _ mF_RX1_28) (fun _ h9 => h9) rfl dX1_append_57 ?_
        refine lv_aload_n hx hb dX1_append_60 rfl (lv_at hl 0 rfl) ?_
        refine va_get (D := (dC, dI)) (ci := 3) (v := .ref (ad 16)) (C := RX1) (T := TX1) (N := 7) hx hb hts iW_X1 hown hK hP 13 rfl rfl 2 (by decide) (hts _ mF_RX1_18) (fun _ h9 => h9) rfl dX1_append_61 ?_
        refine lv_aload_n hx hb dX1_append_64 rfl (lv_at hl 0 rfl) ?_
        refine va_get (D := (dC, dI)) (ci := 3) (v := .int Em) (C := RX1) (T := TX1) (N := 7) hx hb hts iW_X1 hown hK hP 13 rfl rfl 4 (by decide) (hts _ mF_RX1_24) (fun _ h9 => h9) rfl dX1_append_65 ?_
        obtain ⟨h7, hs⟩ := hs
        refine va_iald hx hb hK hP 16 0 rfl rfl h7 dX1_append_68 ?_
        refine lv_iadd hx hb dX1_append_69 ?_
        refine va_put (D := (dC, dI)) (ci := 3) (v := .int (Eb + ((upd Ea Em.toNatClampNeg (0 : Int32)) Em.toNatClampNeg))) (ty := .int) (C := RX1) (T := TX1) (N := 7) hx hb hts iW_X1 tyX1 tyX1_ok nmX1 hown hK hP (fA_D hi rfl) hS 13 rfl rfl 5 (by decide) (hts _ mF_RX1_28) (fun _ h9 => h9) rfl (by decide +kernel) rfl rfl (Nat.le_of_ble_eq_true rfl) dX1_append_70 (fun H locs hP _ hS => ?_)
        have hP : va_P (dC, dI) vwCl (wC ad cI cJ Bc Bl Pk Pr Pl Pc Pm Gf Gt Gx Gd Gm (upd Ek Em.toNatClampNeg a0) (upd Er Em.toNatClampNeg a1) (upd Ea Em.toNatClampNeg (0 : Int32)) Ex Em (Eb + ((upd Ea Em.toNatClampNeg (0 : Int32)) Em.toNatClampNeg)) Et Ss Sm Wg Wr Md) H := hP
        refine lv_aload_n hx hb dX1_append_73 rfl (lv_at hl 0 rfl) ?_
        refine lv_dup hx hb dX1_append_74 rfl ?_
        refine va_get (D := (dC, dI)) (ci := 3) (v := .int Em) (C := RX1) (T := TX1) (N := 7) hx hb hts iW_X1 hown hK hP 13 rfl rfl 4 (by decide) (hts _ mF_RX1_24) (fun _ h9 => h9) rfl dX1_append_75 ?_
        refine lv_iconst (v := 1) hx hb dX1_append_78 (by decide) ?_
        refine lv_iadd hx hb dX1_append_79 ?_
        refine va_put (D := (dC, dI)) (ci := 3) (v := .int (Em + (1 : Int32))) (ty := .int) (C := RX1) (T := TX1) (N := 7) hx hb hts iW_X1 tyX1 tyX1_ok nmX1 hown hK hP (fA_D hi rfl) hS 13 rfl rfl 4 (by decide) (hts _ mF_RX1_24) (fun _ h9 => h9) rfl (by decide +kernel) rfl rfl (Nat.le_of_ble_eq_true rfl) dX1_append_80 (fun H locs hP _ hS => ?_)
        have hP : va_P (dC, dI) vwCl (wC ad cI cJ Bc Bl Pk Pr Pl Pc Pm Gf Gt Gx Gd Gm (upd Ek Em.toNatClampNeg a0) (upd Er Em.toNatClampNeg a1) (upd Ea Em.toNatClampNeg (0 : Int32)) Ex (Em + (1 : Int32)) (Eb + ((upd Ea Em.toNatClampNeg (0 : Int32)) Em.toNatClampNeg)) Et Ss Sm Wg Wr Md) H := hP
        rw [hQ9]
        have hf : f_X1_append a0 a1 a2 Ek Er Ea Em Eb = ((upd Ek Em.toNatClampNeg a0), (upd Er Em.toNatClampNeg a1), (upd Ea Em.toNatClampNeg (0 : Int32)), (Em + (1 : Int32)), (Eb + ((upd Ea Em.toNatClampNeg (0 : Int32)) Em.toNatClampNeg))) := by simp only [f_X1_append, if_neg c1, if_neg c2, if_pos c5]
        exact W.vret hx hb hr (fun t ht hW => ⟨⟨(), rfl, True.intro, by rw [hf]; show va_P (dC, dI) vwCl _ t.heap; rw [ht]; exact hP⟩, hS.F ht⟩) hS.2.2 dX1_append_83
      · have hs := hs.2 c5
        refine lv_iconst (v := 1) hx hb dX1_append_49 (by decide) ?_
        refine lv_goto (tgt := 54) hx hb dX1_append_50 (by decide) ?_
        obtain ⟨h8, hs⟩ := hs
        refine va_iast hx hb hK hP (fA_D hi rfl) hS 16 0 rfl rfl h8 dX1_append_54 (fun H locs hP _ hS => ?_)
        have hP : va_P (dC, dI) vwCl (wC ad cI cJ Bc Bl Pk Pr Pl Pc Pm Gf Gt Gx Gd Gm (upd Ek Em.toNatClampNeg a0) (upd Er Em.toNatClampNeg a1) (upd Ea Em.toNatClampNeg (1 : Int32)) Ex Em Eb Et Ss Sm Wg Wr Md) H := hP
        refine lv_aload_n hx hb dX1_append_55 rfl (lv_at hl 0 rfl) ?_
        refine lv_dup hx hb dX1_append_56 rfl ?_
        refine va_get (D := (dC, dI)) (ci := 3) (v := .int Eb) (C := RX1) (T := TX1) (N := 7) hx hb hts iW_X1 hown hK hP 13 rfl rfl 5 (by decide) (hts _ mF_RX1_28) (fun _ h9 => h9) rfl dX1_append_57 ?_
        refine lv_aload_n hx hb dX1_append_60 rfl (lv_at hl 0 rfl) ?_
        refine va_get (D := (dC, dI)) (ci := 3) (v := .ref (ad 16)) (C := RX1) (T := TX1) (N := 7) hx hb hts iW_X1 hown hK hP 13 rfl rfl 2 (by decide) (hts _ mF_RX1_18) (fun _ h9 => h9) rfl dX1_append_61 ?_
        refine lv_aload_n hx hb dX1_append_64 rfl (lv_at hl 0 rfl) ?_
        refine va_get (D := (dC, dI)) (ci := 3) (v := .int Em) (C := RX1) (T := TX1) (N := 7) hx hb hts iW_X1 hown hK hP 13 rfl rfl 4 (by decide) (hts _ mF_RX1_24) (fun _ h9 => h9) rfl dX1_append_65 ?_
        obtain ⟨h9, hs⟩ := hs
        refine va_iald hx hb hK hP 16 0 rfl rfl h9 dX1_append_68 ?_
        refine lv_iadd hx hb dX1_append_69 ?_
        refine va_put (D := (dC, dI)) (ci := 3) (v := .int (Eb + ((upd Ea Em.toNatClampNeg (1 : Int32)) Em.toNatClampNeg))) (ty := .int) (C := RX1) (T := TX1) (N := 7) hx hb hts iW_X1 tyX1 tyX1_ok nmX1 hown hK hP (fA_D hi rfl) hS 13 rfl rfl 5 (by decide) (hts _ mF_RX1_28) (fun _ h9 => h9) rfl (by decide +kernel) rfl rfl (Nat.le_of_ble_eq_true rfl) dX1_append_70 (fun H locs hP _ hS => ?_)
        have hP : va_P (dC, dI) vwCl (wC ad cI cJ Bc Bl Pk Pr Pl Pc Pm Gf Gt Gx Gd Gm (upd Ek Em.toNatClampNeg a0) (upd Er Em.toNatClampNeg a1) (upd Ea Em.toNatClampNeg (1 : Int32)) Ex Em (Eb + ((upd Ea Em.toNatClampNeg (1 : Int32)) Em.toNatClampNeg)) Et Ss Sm Wg Wr Md) H := hP
        refine lv_aload_n hx hb dX1_append_73 rfl (lv_at hl 0 rfl) ?_
        refine lv_dup hx hb dX1_append_74 rfl ?_
        refine va_get (D := (dC, dI)) (ci := 3) (v := .int Em) (C := RX1) (T := TX1) (N := 7) hx hb hts iW_X1 hown hK hP 13 rfl rfl 4 (by decide) (hts _ mF_RX1_24) (fun _ h9 => h9) rfl dX1_append_75 ?_
        refine lv_iconst (v := 1) hx hb dX1_append_78 (by decide) ?_
        refine lv_iadd hx hb dX1_append_79 ?_
        refine va_put (D := (dC, dI)) (ci := 3) (v := .int (Em + (1 : Int32))) (ty := .int) (C := RX1) (T := TX1) (N := 7) hx hb hts iW_X1 tyX1 tyX1_ok nmX1 hown hK hP (fA_D hi rfl) hS 13 rfl rfl 4 (by decide) (hts _ mF_RX1_24) (fun _ h9 => h9) rfl (by decide +kernel) rfl rfl (Nat.le_of_ble_eq_true rfl) dX1_append_80 (fun H locs hP _ hS => ?_)
        have hP : va_P (dC, dI) vwCl (wC ad cI cJ Bc Bl Pk Pr Pl Pc Pm Gf Gt Gx Gd Gm (upd Ek Em.toNatClampNeg a0) (upd Er Em.toNatClampNeg a1) (upd Ea Em.toNatClampNeg (1 : Int32)) Ex (Em + (1 : Int32)) (Eb + ((upd Ea Em.toNatClampNeg (1 : Int32)) Em.toNatClampNeg)) Et Ss Sm Wg Wr Md) H := hP
        rw [hQ9]
        have hf : f_X1_append a0 a1 a2 Ek Er Ea Em Eb = ((upd Ek Em.toNatClampNeg a0), (upd Er Em.toNatClampNeg a1), (upd Ea Em.toNatClampNeg (1 : Int32)), (Em + (1 : Int32)), (Eb + ((upd Ea Em.toNatClampNeg (1 : Int32)) Em.toNatClampNeg))) := by simp only [f_X1_append, if_neg c1, if_neg c2, if_neg c5]
        exact W.vret hx hb hr (fun t ht hW => ⟨⟨(), rfl, True.intro, by rw [hf]; show va_P (dC, dI) vwCl _ t.heap; rw [ht]; exact hP⟩, hS.F ht⟩) hS.2.2 dX1_append_83
theorem q_X1_append {p : Program} {l : Launch} {e : Env} {R : Room} {s : State} {m : MethodId} {args : Array Value} {below : List Frame} {meth : Method} {c : Code} {H : Heap} {locs : List Loc} {cells slots : Nat} {Q : State → Prop} {pc : Nat} {ls : Array Slot} {rest : List Value} {cc : ByteArray} {nL idx : Nat} {own : String} {A0 : Nat → Prop} {dC : Nat → ClassId} {dI : Nat → Nat → Nat} {cI cJ : ClassId} {ad : Nat → Nat} {Bc : Nat → Int64} {Bl : Nat → Int32} {Pk : Nat → Int32} {Pr : Nat → Int32} {Pl : Nat → Int32} {Pc : Nat → Int64} {Pm : Int32} {Gf : Nat → Int32} {Gt : Nat → Int32} {Gx : Nat → Int32} {Gd : Int32} {Gm : Int32} {Ek : Nat → Int32} {Er : Nat → Int32} {Ea : Nat → Int32} {Ex : Nat → Int32} {Em : Int32} {Eb : Int32} {Et : Int32} {Ss : Nat → Int32} {Sm : Int32} {Wg : Nat → Int64} {Wr : Nat → Int64} {Md : Nat → Int64} (hx : p.tables.exec = Jvm.exec) (hb : c.code = cc) (hml : c.maxLocals = nL) (hown : s.vm.findClass own = some m.cls) (hts : ∀ w ∈ bigW, w.before args s = true) (hlk : Cond.methodLink own idx yX1_append ∈ bigW) (hR : 1 ≤ R.frames ∧ 23 ≤ R.locals) (hf : cells + 0 ≤ R.cells ∧ slots + 0 ≤ R.slots) (hz : ls.size = nL) (hw : (rest.map fun v => v.category).sum ≤ 8) (hS : va_S A0 s.heap H locs) (hd : decode cc pc = .ok (.invokevirtual idx, 3)) (hA : ∀ q, fA 23 ad H.size q → A0 q) (hi : fI 23 ad) (hK : va_K (dC, dI) vwCl [(cI, .int), (cJ, .long)] s) (hP : va_P (dC, dI) vwCl (wC ad cI cJ Bc Bl Pk Pr Pl Pc Pm Gf Gt Gx Gd Gm Ek Er Ea Ex Em Eb Et Ss Sm Wg Wr Md) H) (a0 : Int32) (a1 : Int32) (a2 : Int32) (hs : S_X1_append a0 a1 a2 Ek Er Ea Em Eb)  (u : (Nat → Int32) × (Nat → Int32) × (Nat → Int32) × Int32 × Int32) (hu : u = f_X1_append a0 a1 a2 Ek Er Ea Em Eb) (k : ∀ (H1 : Heap) (locs1 : List Loc), va_P (dC, dI) vwCl (wC ad cI cJ Bc Bl Pk Pr Pl Pc Pm Gf Gt Gx Gd Gm u.1 u.2.1 u.2.2.1 Ex u.2.2.2.1 u.2.2.2.2 Et Ss Sm Wg Wr Md) H1 → va_S A0 s.heap H1 locs1 → W p l e R s m args below meth c H1 locs1 (cells + 0) (slots + 0) Q (F0 m (pc + 3) ls (rest))) : W p l e R s m args below meth c H locs cells slots Q (F0 m pc ls (.int a2 :: .int a1 :: .int a0 :: .ref (ad 13) :: rest)) := by
  subst hu
  exact va_callv (va_runV (As := [.int a0, .int a1, .int a2]) (rest := rest) ⟨hx, hb, hml, hown, hts⟩ (c_X1_append l dC dI cI cJ ad hi H.size Bc Bl Pk Pr Pl Pc Pm Gf Gt Gx Gd Gm Ek Er Ea Ex Em Eb Et Ss Sm Wg Wr Md a0 a1 a2 hs) (kV 3 hts hlk mI_X1_append mN_RX1 mY_X1_append mV_X1_append rfl rfl (by decide +kernel) hR) ⟨fun a U g mk q => ⟨q.1, q.2.1, q.2.2.1, va_K.moved (u := U) (U := U.calling g mk a) (Vm.Alike.refl U.vm) q.2.2.2⟩, va_recv hK hP (ci := 3) (q0 := 13) rfl rfl, fun U hU hW => ⟨rfl, by rw [hU], by rw [hU]; exact hP, va_K.moved hW.alike hK⟩⟩ rfl rfl hz rfl (lv_room hw) hd hf) hS (fun q _ h => hA q h) (fun q h => hA q h) (fun u t H1 locs1 ht hvm hw9 hB hz1 hk1 hS1 => by
    skip
    exact k H1 locs1 (by rw [← ht]; exact hB) hS1)

def f_X1_appendToken (a0 : Int32) (Ex : Nat → Int32) (Et : Int32) : (Nat → Int32) × Int32 := (if Et < 0 then (Ex, Et) else (if (60 : Int32) ≤ Et then (Ex, Et) else ((upd Ex Et.toNatClampNeg a0), (Et + (1 : Int32)))))
def S_X1_appendToken (a0 : Int32) (Ex : Nat → Int32) (Et : Int32) : Prop := (Et < 0 → (True)) ∧ (¬ Et < 0 → (((60 : Int32) ≤ Et → (True)) ∧ (¬ (60 : Int32) ≤ Et → ((vp_in Et 60) ∧ (True)))))
set_option maxHeartbeats 4000000 in
set_option maxRecDepth 100000 in
theorem c_X1_appendToken (l : Launch) (dC : Nat → ClassId) (dI : Nat → Nat → Nat) (cI cJ : ClassId) (ad : Nat → Nat) (hi : fI 23 ad) (sz : Nat) (Bc : Nat → Int64) (Bl : Nat → Int32) (Pk : Nat → Int32) (Pr : Nat → Int32) (Pl : Nat → Int32) (Pc : Nat → Int64) (Pm : Int32) (Gf : Nat → Int32) (Gt : Nat → Int32) (Gx : Nat → Int32) (Gd : Int32) (Gm : Int32) (Ek : Nat → Int32) (Er : Nat → Int32) (Ea : Nat → Int32) (Ex : Nat → Int32) (Em : Int32) (Eb : Int32) (Et : Int32) (Ss : Nat → Int32) (Sm : Int32) (Wg : Nat → Int64) (Wr : Nat → Int64) (Md : Nat → Int64) (a0 : Int32) (hs : S_X1_appendToken a0 Ex Et) : Met l yX1_appendToken (mW yX1_appendToken cX1_appendToken 2 none) { frames := 0, cells := 0, slots := 0, locals := 0 } (va_Pc [.ref (ad 13), .int a0] (fun U => U.heap.size = sz ∧ va_P (dC, dI) vwCl (wC ad cI cJ Bc Bl Pk Pr Pl Pc Pm Gf Gt Gx Gd Gm Ek Er Ea Ex Em Eb Et Ss Sm Wg Wr Md) U.heap ∧ va_K (dC, dI) vwCl [(cI, .int), (cJ, .long)] U)) (va_Qv (fun (_ : Unit) => True) (fun _ t => va_P (dC, dI) vwCl (wC ad cI cJ Bc Bl Pk Pr Pl Pc Pm Gf Gt Gx Gd Gm Ek Er Ea ((f_X1_appendToken a0 Ex Et).1) Em Eb ((f_X1_appendToken a0 Ex Et).2) Ss Sm Wg Wr Md) t.heap) (fA 23 ad sz)) 0 0 (fA 23 ad sz) := by
  refine Met.ofW (cc := cX1_appendToken) (maxL := 2) (ret := none) (by decide) rfl ?_
  intro p e s m args below meth c s₁ B hml hv
  obtain ⟨rfl, hsz, hP, hK⟩ := hv
  have hx := B.exec
  have hb := B.bytes
  have hr := B.returns
  have hts := mW_hts (atoms_spec (ws := (mW yX1_appendToken cX1_appendToken 2 none)) B.pre)
  have hown : s.vm.findClass RX1 = some m.cls := findClass_of_methodNamed B.named
  have hlocks := B.notSynchronized
  subst hsz
  have hA : ∀ (n : Nat) (q : Nat), s.heap.size ≤ n → n ≤ q → fA 23 ad s.heap.size q := fun n q h1 h2 => Or.inr (Nat.le_trans h1 h2)
  have hS : va_S (fA 23 ad s.heap.size) s.heap s.heap [] := va_S.rf
  have hA : ∀ q, s.heap.size ≤ q → (fA 23 ad s.heap.size) q := fun q h => Or.inr h
  unfold S_X1_appendToken at hs
  have hl := lv_entry ([.ref (ad 13), .int a0]) (n := 2) (Nat.le_of_ble_eq_true rfl)
  rw [lg_entry_eq]
  generalize (lg_sl ([.ref (ad 13), .int a0]) ++ List.replicate (2 - (lg_sl ([.ref (ad 13), .int a0])).length) Slot.unset).toArray = ls at hl ⊢
  have hl : lv_has ls 2 [(0, .ref (ad 13)), (1, .int a0)] := hl
  refine W_gen (fun Q9 hQ9 => ?_)
  refine lv_aload_n hx hb dX1_appendToken_0 rfl (lv_at hl 0 rfl) ?_
  refine va_get (D := (dC, dI)) (ci := 3) (v := .int Et) (C := RX1) (T := TX1) (N := 7) hx hb hts iW_X1 hown hK hP 13 rfl rfl 6 (by decide) (hts _ mF_RX1_31) (fun _ h9 => h9) rfl dX1_appendToken_1 ?_
  refine lv_if_lt (tgt := 36) hx hb dX1_appendToken_4 (by decide) (fun c1 => ?_) (fun c1 => ?_)
  · have hs := hs.1 c1
    rw [hQ9]
    have hf : f_X1_appendToken a0 Ex Et = (Ex, Et) := by simp only [f_X1_appendToken, if_pos c1]
    exact W.vret hx hb hr (fun t ht hW => ⟨⟨(), rfl, True.intro, by rw [hf]; show va_P (dC, dI) vwCl _ t.heap; rw [ht]; exact hP⟩, hS.F ht⟩) hS.2.2 dX1_appendToken_36
  · have hs := hs.2 c1
    refine lv_aload_n hx hb dX1_appendToken_7 rfl (lv_at hl 0 rfl) ?_
    refine va_get (D := (dC, dI)) (ci := 3) (v := .int Et) (C := RX1) (T := TX1) (N := 7) hx hb hts iW_X1 hown hK hP 13 rfl rfl 6 (by decide) (hts _ mF_RX1_31) (fun _ h9 => h9) rfl dX1_appendToken_8 ?_
    refine lv_bipush (v := 60) hx hb dX1_appendToken_11 (by decide) ?_
    refine lv_icmp_ge (tgt := 36) hx hb dX1_appendToken_13 (by decide) (fun c2 => ?_) (fun c2 => ?_)
    · have hs := hs.1 c2
      rw [hQ9]
      have hf : f_X1_appendToken a0 Ex Et = (Ex, Et) := by simp only [f_X1_appendToken, if_neg c1, if_pos c2]
      exact W.vret hx hb hr (fun t ht hW => ⟨⟨(), rfl, True.intro, by rw [hf]; show va_P (dC, dI) vwCl _ t.heap; rw [ht]; exact hP⟩, hS.F ht⟩) hS.2.2 dX1_appendToken_36
    · have hs := hs.2 c2
      refine lv_aload_n hx hb dX1_appendToken_16 rfl (lv_at hl 0 rfl) ?_
      refine va_get (D := (dC, dI)) (ci := 3) (v := .ref (ad 17)) (C := RX1) (T := TX1) (N := 7) hx hb hts iW_X1 hown hK hP 13 rfl rfl 3 (by decide) (hts _ mF_RX1_21) (fun _ h9 => h9) rfl dX1_appendToken_17 ?_
      refine lv_aload_n hx hb dX1_appendToken_20 rfl (lv_at hl 0 rfl) ?_
      refine va_get (D := (dC, dI)) (ci := 3) (v := .int Et) (C := RX1) (T := TX1) (N := 7) hx hb hts iW_X1 hown hK hP 13 rfl rfl 6 (by decide) (hts _ mF_RX1_31) (fun _ h9 => h9) rfl dX1_appendToken_21 ?_
      refine lv_iload_n hx hb dX1_appendToken_24 rfl (lv_at hl 1 rfl) ?_
      obtain ⟨h3, hs⟩ := hs
      refine va_iast hx hb hK hP (fA_D hi rfl) hS 17 0 rfl rfl h3 dX1_appendToken_25 (fun H locs hP _ hS => ?_)
      have hP : va_P (dC, dI) vwCl (wC ad cI cJ Bc Bl Pk Pr Pl Pc Pm Gf Gt Gx Gd Gm Ek Er Ea (upd Ex Et.toNatClampNeg a0) Em Eb Et Ss Sm Wg Wr Md) H := hP
      refine lv_aload_n hx hb dX1_appendToken_26 rfl (lv_at hl 0 rfl) ?_
      refine lv_dup hx hb dX1_appendToken_27 rfl ?_
      refine va_get (D := (dC, dI)) (ci := 3) (v := .int Et) (C := RX1) (T := TX1) (N := 7) hx hb hts iW_X1 hown hK hP 13 rfl rfl 6 (by decide) (hts _ mF_RX1_31) (fun _ h9 => h9) rfl dX1_appendToken_28 ?_
      refine lv_iconst (v := 1) hx hb dX1_appendToken_31 (by decide) ?_
      refine lv_iadd hx hb dX1_appendToken_32 ?_
      refine va_put (D := (dC, dI)) (ci := 3) (v := .int (Et + (1 : Int32))) (ty := .int) (C := RX1) (T := TX1) (N := 7) hx hb hts iW_X1 tyX1 tyX1_ok nmX1 hown hK hP (fA_D hi rfl) hS 13 rfl rfl 6 (by decide) (hts _ mF_RX1_31) (fun _ h9 => h9) rfl (by decide +kernel) rfl rfl (Nat.le_of_ble_eq_true rfl) dX1_appendToken_33 (fun H locs hP _ hS => ?_)
      have hP : va_P (dC, dI) vwCl (wC ad cI cJ Bc Bl Pk Pr Pl Pc Pm Gf Gt Gx Gd Gm Ek Er Ea (upd Ex Et.toNatClampNeg a0) Em Eb (Et + (1 : Int32)) Ss Sm Wg Wr Md) H := hP
      rw [hQ9]
      have hf : f_X1_appendToken a0 Ex Et = ((upd Ex Et.toNatClampNeg a0), (Et + (1 : Int32))) := by simp only [f_X1_appendToken, if_neg c1, if_neg c2]
      exact W.vret hx hb hr (fun t ht hW => ⟨⟨(), rfl, True.intro, by rw [hf]; show va_P (dC, dI) vwCl _ t.heap; rw [ht]; exact hP⟩, hS.F ht⟩) hS.2.2 dX1_appendToken_36
theorem q_X1_appendToken {p : Program} {l : Launch} {e : Env} {R : Room} {s : State} {m : MethodId} {args : Array Value} {below : List Frame} {meth : Method} {c : Code} {H : Heap} {locs : List Loc} {cells slots : Nat} {Q : State → Prop} {pc : Nat} {ls : Array Slot} {rest : List Value} {cc : ByteArray} {nL idx : Nat} {own : String} {A0 : Nat → Prop} {dC : Nat → ClassId} {dI : Nat → Nat → Nat} {cI cJ : ClassId} {ad : Nat → Nat} {Bc : Nat → Int64} {Bl : Nat → Int32} {Pk : Nat → Int32} {Pr : Nat → Int32} {Pl : Nat → Int32} {Pc : Nat → Int64} {Pm : Int32} {Gf : Nat → Int32} {Gt : Nat → Int32} {Gx : Nat → Int32} {Gd : Int32} {Gm : Int32} {Ek : Nat → Int32} {Er : Nat → Int32} {Ea : Nat → Int32} {Ex : Nat → Int32} {Em : Int32} {Eb : Int32} {Et : Int32} {Ss : Nat → Int32} {Sm : Int32} {Wg : Nat → Int64} {Wr : Nat → Int64} {Md : Nat → Int64} (hx : p.tables.exec = Jvm.exec) (hb : c.code = cc) (hml : c.maxLocals = nL) (hown : s.vm.findClass own = some m.cls) (hts : ∀ w ∈ bigW, w.before args s = true) (hlk : Cond.methodLink own idx yX1_appendToken ∈ bigW) (hR : 1 ≤ R.frames ∧ 21 ≤ R.locals) (hf : cells + 0 ≤ R.cells ∧ slots + 0 ≤ R.slots) (hz : ls.size = nL) (hw : (rest.map fun v => v.category).sum ≤ 8) (hS : va_S A0 s.heap H locs) (hd : decode cc pc = .ok (.invokevirtual idx, 3)) (hA : ∀ q, fA 23 ad H.size q → A0 q) (hi : fI 23 ad) (hK : va_K (dC, dI) vwCl [(cI, .int), (cJ, .long)] s) (hP : va_P (dC, dI) vwCl (wC ad cI cJ Bc Bl Pk Pr Pl Pc Pm Gf Gt Gx Gd Gm Ek Er Ea Ex Em Eb Et Ss Sm Wg Wr Md) H) (a0 : Int32) (hs : S_X1_appendToken a0 Ex Et)  (u : (Nat → Int32) × Int32) (hu : u = f_X1_appendToken a0 Ex Et) (k : ∀ (H1 : Heap) (locs1 : List Loc), va_P (dC, dI) vwCl (wC ad cI cJ Bc Bl Pk Pr Pl Pc Pm Gf Gt Gx Gd Gm Ek Er Ea u.1 Em Eb u.2 Ss Sm Wg Wr Md) H1 → va_S A0 s.heap H1 locs1 → W p l e R s m args below meth c H1 locs1 (cells + 0) (slots + 0) Q (F0 m (pc + 3) ls (rest))) : W p l e R s m args below meth c H locs cells slots Q (F0 m pc ls (.int a0 :: .ref (ad 13) :: rest)) := by
  subst hu
  exact va_callv (va_runV (As := [.int a0]) (rest := rest) ⟨hx, hb, hml, hown, hts⟩ (c_X1_appendToken l dC dI cI cJ ad hi H.size Bc Bl Pk Pr Pl Pc Pm Gf Gt Gx Gd Gm Ek Er Ea Ex Em Eb Et Ss Sm Wg Wr Md a0 hs) (kV 1 hts hlk mI_X1_appendToken mN_RX1 mY_X1_appendToken mV_X1_appendToken rfl rfl (by decide +kernel) hR) ⟨fun a U g mk q => ⟨q.1, q.2.1, q.2.2.1, va_K.moved (u := U) (U := U.calling g mk a) (Vm.Alike.refl U.vm) q.2.2.2⟩, va_recv hK hP (ci := 3) (q0 := 13) rfl rfl, fun U hU hW => ⟨rfl, by rw [hU], by rw [hU]; exact hP, va_K.moved hW.alike hK⟩⟩ rfl rfl hz rfl (lv_room hw) hd hf) hS (fun q _ h => hA q h) (fun q h => hA q h) (fun u t H1 locs1 ht hvm hw9 hB hz1 hk1 hS1 => by
    skip
    exact k H1 locs1 (by rw [← ht]; exact hB) hS1)

def L_X1_copyTokens_5 : Nat → Int32 → (Nat → Int32) → Int32 → (Nat → Int32) → Int32 → Int32 × (Nat → Int32) × Int32
  | 0, x2, Ex, Et, Gx, Gm => (x2, Ex, Et)
  | n + 1, x2, Ex, Et, Gx, Gm => (if x2 < 0 then (x2, Ex, Et) else (if Gm ≤ x2 then (x2, Ex, Et) else (if (60 : Int32) ≤ x2 then (x2, Ex, Et) else (let u8 := f_X1_appendToken (Gx x2.toNatClampNeg) Ex Et; L_X1_copyTokens_5 n (x2 + 1) u8.1 u8.2 Gx Gm))))
def SL_X1_copyTokens_5 : Nat → Int32 → (Nat → Int32) → Int32 → (Nat → Int32) → Int32 → Prop
  | 0, _, _, _, _, _ => False
  | n + 1, x2, Ex, Et, Gx, Gm => (x2 < 0 → (True)) ∧ (¬ x2 < 0 → ((Gm ≤ x2 → (True)) ∧ (¬ Gm ≤ x2 → (((60 : Int32) ≤ x2 → (True)) ∧ (¬ (60 : Int32) ≤ x2 → ((vp_in x2 60) ∧ ((S_X1_appendToken (Gx x2.toNatClampNeg) Ex Et) ∧ (∀ u8, u8 = f_X1_appendToken (Gx x2.toNatClampNeg) Ex Et → (SL_X1_copyTokens_5 n (x2 + 1) u8.1 u8.2 Gx Gm)))))))))
def f_X1_copyTokens (Gt : Nat → Int32) (Gx : Nat → Int32) (Gd : Int32) (Gm : Int32) (Ex : Nat → Int32) (Et : Int32) : (Nat → Int32) × Int32 := (let u2 := f_X2_firstToken Gt Gd; (let u3 := L_X1_copyTokens_5 61 u2 Ex Et Gx Gm; (u3.2.1, u3.2.2)))
def S_X1_copyTokens (Gt : Nat → Int32) (Gx : Nat → Int32) (Gd : Int32) (Gm : Int32) (Ex : Nat → Int32) (Et : Int32) : Prop := (S_X2_firstToken Gt Gd) ∧ (∀ u2, u2 = f_X2_firstToken Gt Gd → ((SL_X1_copyTokens_5 61 u2 Ex Et Gx Gm) ∧ (∀ u3, u3 = L_X1_copyTokens_5 61 u2 Ex Et Gx Gm → (True))))
set_option maxHeartbeats 4000000 in
set_option maxRecDepth 100000 in
theorem c_X1_copyTokens (l : Launch) (dC : Nat → ClassId) (dI : Nat → Nat → Nat) (cI cJ : ClassId) (ad : Nat → Nat) (hi : fI 23 ad) (sz : Nat) (Bc : Nat → Int64) (Bl : Nat → Int32) (Pk : Nat → Int32) (Pr : Nat → Int32) (Pl : Nat → Int32) (Pc : Nat → Int64) (Pm : Int32) (Gf : Nat → Int32) (Gt : Nat → Int32) (Gx : Nat → Int32) (Gd : Int32) (Gm : Int32) (Ek : Nat → Int32) (Er : Nat → Int32) (Ea : Nat → Int32) (Ex : Nat → Int32) (Em : Int32) (Eb : Int32) (Et : Int32) (Ss : Nat → Int32) (Sm : Int32) (Wg : Nat → Int64) (Wr : Nat → Int64) (Md : Nat → Int64) (hs : S_X1_copyTokens Gt Gx Gd Gm Ex Et) : Met l yX1_copyTokens (mW yX1_copyTokens cX1_copyTokens 3 none) { frames := 1, cells := 0, slots := 0, locals := 21 } (va_Pc [.ref (ad 13), .ref (ad 9)] (fun U => U.heap.size = sz ∧ va_P (dC, dI) vwCl (wC ad cI cJ Bc Bl Pk Pr Pl Pc Pm Gf Gt Gx Gd Gm Ek Er Ea Ex Em Eb Et Ss Sm Wg Wr Md) U.heap ∧ va_K (dC, dI) vwCl [(cI, .int), (cJ, .long)] U)) (va_Qv (fun (_ : Unit) => True) (fun _ t => va_P (dC, dI) vwCl (wC ad cI cJ Bc Bl Pk Pr Pl Pc Pm Gf Gt Gx Gd Gm Ek Er Ea ((f_X1_copyTokens Gt Gx Gd Gm Ex Et).1) Em Eb ((f_X1_copyTokens Gt Gx Gd Gm Ex Et).2) Ss Sm Wg Wr Md) t.heap) (fA 23 ad sz)) 0 0 (fA 23 ad sz) := by
  refine Met.ofW (cc := cX1_copyTokens) (maxL := 3) (ret := none) (by decide) rfl ?_
  intro p e s m args below meth c s₁ B hml hv
  obtain ⟨rfl, hsz, hP, hK⟩ := hv
  have hx := B.exec
  have hb := B.bytes
  have hr := B.returns
  have hts := mW_hts (atoms_spec (ws := (mW yX1_copyTokens cX1_copyTokens 3 none)) B.pre)
  have hown : s.vm.findClass RX1 = some m.cls := findClass_of_methodNamed B.named
  have hlocks := B.notSynchronized
  subst hsz
  have hA : ∀ (n : Nat) (q : Nat), s.heap.size ≤ n → n ≤ q → fA 23 ad s.heap.size q := fun n q h1 h2 => Or.inr (Nat.le_trans h1 h2)
  have hS : va_S (fA 23 ad s.heap.size) s.heap s.heap [] := va_S.rf
  have hA : ∀ q, s.heap.size ≤ q → (fA 23 ad s.heap.size) q := fun q h => Or.inr h
  unfold S_X1_copyTokens at hs
  have hl := lv_entry ([.ref (ad 13), .ref (ad 9)]) (n := 3) (Nat.le_of_ble_eq_true rfl)
  rw [lg_entry_eq]
  generalize (lg_sl ([.ref (ad 13), .ref (ad 9)]) ++ List.replicate (3 - (lg_sl ([.ref (ad 13), .ref (ad 9)])).length) Slot.unset).toArray = ls at hl ⊢
  have hl : lv_has ls 3 [(0, .ref (ad 13)), (1, .ref (ad 9))] := hl
  refine W_gen (fun Q9 hQ9 => ?_)
  refine lv_aload_n hx hb dX1_copyTokens_0 rfl (lv_at hl 1 rfl) ?_
  obtain ⟨h1, hs⟩ := hs
  obtain ⟨u2, hu2⟩ : ∃ z, z = f_X2_firstToken Gt Gd := ⟨_, rfl⟩
  have hs := hs u2 hu2
  refine q_X2_firstToken hx hb hml hown hts mM_RX1_34 ⟨Nat.le_of_ble_eq_true rfl, Nat.le_of_ble_eq_true rfl⟩ ⟨Nat.le_of_ble_eq_true rfl, Nat.le_of_ble_eq_true rfl⟩ hl.1 (Nat.le_of_ble_eq_true rfl) hS dX1_copyTokens_1 (fun _ h9 => fA_mono hS.1 h9) hi hK hP h1 u2 hu2 (fun H locs hP hS => ?_)
  refine lv_istore_n (lv' := [(2, .int u2), (0, .ref (ad 13)), (1, .ref (ad 9))]) hx hb dX1_copyTokens_4 rfl hl (by decide) rfl (fun ls hl => ?_)
  obtain ⟨h4, hs⟩ := hs
  obtain ⟨u3, hu3⟩ : ∃ z, z = L_X1_copyTokens_5 61 u2 Ex Et Gx Gm := ⟨_, rfl⟩
  have hs := hs u3 hu3
  have hex5 : ∀ (H : Heap) (locs : List Loc) (ls : Array Slot), va_P (dC, dI) vwCl (wC ad cI cJ Bc Bl Pk Pr Pl Pc Pm Gf Gt Gx Gd Gm Ek Er Ea u3.2.1 Em Eb u3.2.2 Ss Sm Wg Wr Md) H → va_S (fA 23 ad s.heap.size) s.heap H locs → lv_has ls 3 [(2, .int u3.1), (0, .ref (ad 13)), (1, .ref (ad 9))] → W p l e (headSpec (mW yX1_copyTokens cX1_copyTokens 3 none) { frames := 1, cells := 0, slots := 0, locals := 21 }).room s m ([.ref (ad 13), .ref (ad 9)] : List Value).toArray below meth c H locs 0 0 Q9 (F0 m 39 ls []) := by
    intro H locs ls hP hS hl
    rw [hQ9]
    have hf : f_X1_copyTokens Gt Gx Gd Gm Ex Et = (u3.2.1, u3.2.2) := by simp only [f_X1_copyTokens, ← hu2, ← hu3]
    exact W.vret hx hb hr (fun t ht hW => ⟨⟨(), rfl, True.intro, by rw [hf]; show va_P (dC, dI) vwCl _ t.heap; rw [ht]; exact hP⟩, hS.F ht⟩) hS.2.2 dX1_copyTokens_39
  have hlp6 : ∀ (n : Nat) (x2v : Int32) (Exv : Nat → Int32) (Etv : Int32) (H : Heap) (locs : List Loc) (ls : Array Slot), SL_X1_copyTokens_5 n x2v Exv Etv Gx Gm → u3 = L_X1_copyTokens_5 n x2v Exv Etv Gx Gm → va_P (dC, dI) vwCl (wC ad cI cJ Bc Bl Pk Pr Pl Pc Pm Gf Gt Gx Gd Gm Ek Er Ea Exv Em Eb Etv Ss Sm Wg Wr Md) H → va_S (fA 23 ad s.heap.size) s.heap H locs → lv_has ls 3 [(2, .int x2v), (0, .ref (ad 13)), (1, .ref (ad 9))] → W p l e (headSpec (mW yX1_copyTokens cX1_copyTokens 3 none) { frames := 1, cells := 0, slots := 0, locals := 21 }).room s m ([.ref (ad 13), .ref (ad 9)] : List Value).toArray below meth c H locs 0 0 Q9 (F0 m 5 ls []) := by
    intro n
    induction n with
    | zero => intro x2v Exv Etv H locs ls hs; rw [SL_X1_copyTokens_5] at hs; exact hs.elim
    | succ n ih =>
      intro x2v Exv Etv H locs ls hs hq7 hP hS hl
      rw [SL_X1_copyTokens_5] at hs
      refine lv_iload_n hx hb dX1_copyTokens_5 rfl (lv_at hl 0 rfl) ?_
      refine lv_if_lt (tgt := 39) hx hb dX1_copyTokens_6 (by decide) (fun c8 => ?_) (fun c8 => ?_)
      · have hs := hs.1 c8
        have he9 : u3 = (x2v, Exv, Etv) := by rw [hq7, L_X1_copyTokens_5]; simp only [if_pos c8, ↓reduceIte]
        exact hex5 _ _ _ (by first | exact hP | (rw [he9]; exact hP)) hS (by first | exact lv_sub hl [0, 1, 2] rfl | (rw [he9]; exact lv_sub hl [0, 1, 2] rfl))
      · have hs := hs.2 c8
        refine lv_iload_n hx hb dX1_copyTokens_9 rfl (lv_at hl 0 rfl) ?_
        refine lv_aload_n hx hb dX1_copyTokens_10 rfl (lv_at hl 2 rfl) ?_
        refine va_get (D := (dC, dI)) (ci := 4) (v := .int Gm) (C := RX2) (T := TX2) (N := 5) hx hb hts iW_X2 hown hK hP 9 rfl rfl 4 (by decide) (hts _ mF_RX1_40) (fun _ h9 => h9) rfl dX1_copyTokens_11 ?_
        refine lv_icmp_ge (tgt := 39) hx hb dX1_copyTokens_14 (by decide) (fun c10 => ?_) (fun c10 => ?_)
        · have hs := hs.1 c10
          have he11 : u3 = (x2v, Exv, Etv) := by rw [hq7, L_X1_copyTokens_5]; simp only [if_neg c8, if_pos c10, ↓reduceIte]
          exact hex5 _ _ _ (by first | exact hP | (rw [he11]; exact hP)) hS (by first | exact lv_sub hl [0, 1, 2] rfl | (rw [he11]; exact lv_sub hl [0, 1, 2] rfl))
        · have hs := hs.2 c10
          refine lv_iload_n hx hb dX1_copyTokens_17 rfl (lv_at hl 0 rfl) ?_
          refine lv_bipush (v := 60) hx hb dX1_copyTokens_18 (by decide) ?_
          refine lv_icmp_ge (tgt := 39) hx hb dX1_copyTokens_20 (by decide) (fun c12 => ?_) (fun c12 => ?_)
          · have hs := hs.1 c12
            have he13 : u3 = (x2v, Exv, Etv) := by rw [hq7, L_X1_copyTokens_5]; simp only [if_neg c8, if_neg c10, if_pos c12, ↓reduceIte]
            exact hex5 _ _ _ (by first | exact hP | (rw [he13]; exact hP)) hS (by first | exact lv_sub hl [0, 1, 2] rfl | (rw [he13]; exact lv_sub hl [0, 1, 2] rfl))
          · have hs := hs.2 c12
            refine lv_aload_n hx hb dX1_copyTokens_23 rfl (lv_at hl 1 rfl) ?_
            refine lv_aload_n hx hb dX1_copyTokens_24 rfl (lv_at hl 2 rfl) ?_
            refine va_get (D := (dC, dI)) (ci := 4) (v := .ref (ad 12)) (C := RX2) (T := TX2) (N := 5) hx hb hts iW_X2 hown hK hP 9 rfl rfl 2 (by decide) (hts _ mF_RX1_41) (fun _ h9 => h9) rfl dX1_copyTokens_25 ?_
            refine lv_iload_n hx hb dX1_copyTokens_28 rfl (lv_at hl 0 rfl) ?_
            obtain ⟨h14, hs⟩ := hs
            refine va_iald hx hb hK hP 12 0 rfl rfl h14 dX1_copyTokens_29 ?_
            obtain ⟨h15, hs⟩ := hs
            obtain ⟨u16, hu16⟩ : ∃ z, z = f_X1_appendToken (Gx x2v.toNatClampNeg) Exv Etv := ⟨_, rfl⟩
            have hs := hs u16 hu16
            refine q_X1_appendToken hx hb hml hown hts mM_RX1_42 ⟨Nat.le_of_ble_eq_true rfl, Nat.le_of_ble_eq_true rfl⟩ ⟨Nat.le_of_ble_eq_true rfl, Nat.le_of_ble_eq_true rfl⟩ hl.1 (Nat.le_of_ble_eq_true rfl) hS dX1_copyTokens_30 (fun _ h9 => fA_mono hS.1 h9) hi hK hP (Gx x2v.toNatClampNeg) h15 u16 hu16 (fun H locs hP hS => ?_)
            refine lv_iinc (v := (x2v + 1)) (lv' := [(2, .int (x2v + 1)), (0, .ref (ad 13)), (1, .ref (ad 9))]) hx hb dX1_copyTokens_33 hl (k := 0) rfl rfl (by decide) rfl (fun ls hl => ?_)
            refine lv_goto (tgt := 5) hx hb dX1_copyTokens_36 (by decide) ?_
            exact ih (x2v + 1) u16.1 u16.2 _ _ _ hs (by rw [hq7, L_X1_copyTokens_5]; simp only [if_neg c8, if_neg c10, if_neg c12, ← hu16, ↓reduceIte]) hP hS (lv_sub hl [0, 1, 2] rfl)
  exact hlp6 61 u2 Ex Et _ _ _ h4 hu3 hP hS (lv_sub hl [0, 1, 2] rfl)
theorem q_X1_copyTokens {p : Program} {l : Launch} {e : Env} {R : Room} {s : State} {m : MethodId} {args : Array Value} {below : List Frame} {meth : Method} {c : Code} {H : Heap} {locs : List Loc} {cells slots : Nat} {Q : State → Prop} {pc : Nat} {ls : Array Slot} {rest : List Value} {cc : ByteArray} {nL idx : Nat} {own : String} {A0 : Nat → Prop} {dC : Nat → ClassId} {dI : Nat → Nat → Nat} {cI cJ : ClassId} {ad : Nat → Nat} {Bc : Nat → Int64} {Bl : Nat → Int32} {Pk : Nat → Int32} {Pr : Nat → Int32} {Pl : Nat → Int32} {Pc : Nat → Int64} {Pm : Int32} {Gf : Nat → Int32} {Gt : Nat → Int32} {Gx : Nat → Int32} {Gd : Int32} {Gm : Int32} {Ek : Nat → Int32} {Er : Nat → Int32} {Ea : Nat → Int32} {Ex : Nat → Int32} {Em : Int32} {Eb : Int32} {Et : Int32} {Ss : Nat → Int32} {Sm : Int32} {Wg : Nat → Int64} {Wr : Nat → Int64} {Md : Nat → Int64} (hx : p.tables.exec = Jvm.exec) (hb : c.code = cc) (hml : c.maxLocals = nL) (hown : s.vm.findClass own = some m.cls) (hts : ∀ w ∈ bigW, w.before args s = true) (hlk : Cond.methodLink own idx yX1_copyTokens ∈ bigW) (hR : 2 ≤ R.frames ∧ 43 ≤ R.locals) (hf : cells + 0 ≤ R.cells ∧ slots + 0 ≤ R.slots) (hz : ls.size = nL) (hw : (rest.map fun v => v.category).sum ≤ 8) (hS : va_S A0 s.heap H locs) (hd : decode cc pc = .ok (.invokevirtual idx, 3)) (hA : ∀ q, fA 23 ad H.size q → A0 q) (hi : fI 23 ad) (hK : va_K (dC, dI) vwCl [(cI, .int), (cJ, .long)] s) (hP : va_P (dC, dI) vwCl (wC ad cI cJ Bc Bl Pk Pr Pl Pc Pm Gf Gt Gx Gd Gm Ek Er Ea Ex Em Eb Et Ss Sm Wg Wr Md) H) (hs : S_X1_copyTokens Gt Gx Gd Gm Ex Et)  (u : (Nat → Int32) × Int32) (hu : u = f_X1_copyTokens Gt Gx Gd Gm Ex Et) (k : ∀ (H1 : Heap) (locs1 : List Loc), va_P (dC, dI) vwCl (wC ad cI cJ Bc Bl Pk Pr Pl Pc Pm Gf Gt Gx Gd Gm Ek Er Ea u.1 Em Eb u.2 Ss Sm Wg Wr Md) H1 → va_S A0 s.heap H1 locs1 → W p l e R s m args below meth c H1 locs1 (cells + 0) (slots + 0) Q (F0 m (pc + 3) ls (rest))) : W p l e R s m args below meth c H locs cells slots Q (F0 m pc ls (.ref (ad 9) :: .ref (ad 13) :: rest)) := by
  subst hu
  exact va_callv (va_runV (As := [.ref (ad 9)]) (rest := rest) ⟨hx, hb, hml, hown, hts⟩ (c_X1_copyTokens l dC dI cI cJ ad hi H.size Bc Bl Pk Pr Pl Pc Pm Gf Gt Gx Gd Gm Ek Er Ea Ex Em Eb Et Ss Sm Wg Wr Md hs) (kV 1 hts hlk mI_X1_copyTokens mN_RX1 mY_X1_copyTokens mV_X1_copyTokens rfl rfl (by decide +kernel) hR) ⟨fun a U g mk q => ⟨q.1, q.2.1, q.2.2.1, va_K.moved (u := U) (U := U.calling g mk a) (Vm.Alike.refl U.vm) q.2.2.2⟩, va_recv hK hP (ci := 3) (q0 := 13) rfl rfl, fun U hU hW => ⟨rfl, by rw [hU], by rw [hU]; exact hP, va_K.moved hW.alike hK⟩⟩ rfl rfl hz rfl (lv_room hw) hd hf) hS (fun q _ h => hA q h) (fun q h => hA q h) (fun u t H1 locs1 ht hvm hw9 hB hz1 hk1 hS1 => by
    skip
    exact k H1 locs1 (by rw [← ht]; exact hB) hS1)

def f_X3_keep (a1 : Int32) (a2 : Int32) (Bc : Nat → Int64) (Bl : Nat → Int32) (Pk : Nat → Int32) (Pr : Nat → Int32) (Pl : Nat → Int32) (Pc : Nat → Int64) (Pm : Int32) : (Nat → Int32) × (Nat → Int32) × (Nat → Int32) × (Nat → Int64) × Int32 := (if Pm < 0 then (Pk, Pr, Pl, Pc, Pm) else (if Pm < (200 : Int32) then ((upd Pk Pm.toNatClampNeg a1), (upd Pr Pm.toNatClampNeg a2), (upd Pl Pm.toNatClampNeg (Bl (f_X0_place a1 a2).toNatClampNeg)), (va_cpy Bc Pc (f_X0_home a1 a2).toNatClampNeg (Pm * (21 : Int32)).toNatClampNeg (gWIDTHS a1).toNatClampNeg), (Pm + (1 : Int32))) else (Pk, Pr, Pl, Pc, Pm)))
def S_X3_keep (a1 : Int32) (a2 : Int32) (Bc : Nat → Int64) (Bl : Nat → Int32) (Pk : Nat → Int32) (Pr : Nat → Int32) (Pl : Nat → Int32) (Pc : Nat → Int64) (Pm : Int32) : Prop := (Pm < 0 → (True)) ∧ (¬ Pm < 0 → ((Pm < (200 : Int32) → ((vp_in Pm 200) ∧ ((vp_in Pm 200) ∧ ((vp_in (f_X0_place a1 a2) 160) ∧ ((vp_in Pm 200) ∧ ((S_X0_home a1 a2) ∧ ((vp_in a1 5) ∧ ((¬ (f_X0_home a1 a2) < 0) ∧ ((¬ (Pm * (21 : Int32)) < 0) ∧ ((¬ (gWIDTHS a1) < 0) ∧ (((f_X0_home a1 a2).toNatClampNeg + (gWIDTHS a1).toNatClampNeg ≤ 928) ∧ (((Pm * (21 : Int32)).toNatClampNeg + (gWIDTHS a1).toNatClampNeg ≤ 4200) ∧ (True))))))))))))) ∧ (¬ Pm < (200 : Int32) → (True))))
set_option maxHeartbeats 4000000 in
set_option maxRecDepth 100000 in
theorem c_X3_keep (l : Launch) (dC : Nat → ClassId) (dI : Nat → Nat → Nat) (cI cJ : ClassId) (ad : Nat → Nat) (hi : fI 23 ad) (sz : Nat) (Bc : Nat → Int64) (Bl : Nat → Int32) (Pk : Nat → Int32) (Pr : Nat → Int32) (Pl : Nat → Int32) (Pc : Nat → Int64) (Pm : Int32) (Gf : Nat → Int32) (Gt : Nat → Int32) (Gx : Nat → Int32) (Gd : Int32) (Gm : Int32) (Ek : Nat → Int32) (Er : Nat → Int32) (Ea : Nat → Int32) (Ex : Nat → Int32) (Em : Int32) (Eb : Int32) (Et : Int32) (Ss : Nat → Int32) (Sm : Int32) (Wg : Nat → Int64) (Wr : Nat → Int64) (Md : Nat → Int64) (a1 : Int32) (a2 : Int32) (hs : S_X3_keep a1 a2 Bc Bl Pk Pr Pl Pc Pm) : Met l yX3_keep (mW yX3_keep cX3_keep 4 none) { frames := 1, cells := 0, slots := 0, locals := 60 } (va_Pc [.ref (ad 4), .ref (ad 1), .int a1, .int a2] (fun U => U.heap.size = sz ∧ va_P (dC, dI) vwCl (wC ad cI cJ Bc Bl Pk Pr Pl Pc Pm Gf Gt Gx Gd Gm Ek Er Ea Ex Em Eb Et Ss Sm Wg Wr Md) U.heap ∧ va_K (dC, dI) vwCl [(cI, .int), (cJ, .long)] U ∧ cxt (fA 23 ad sz) U U.heap)) (va_Qv (fun (_ : Unit) => True) (fun _ t => va_P (dC, dI) vwCl (wC ad cI cJ Bc Bl ((f_X3_keep a1 a2 Bc Bl Pk Pr Pl Pc Pm).1) ((f_X3_keep a1 a2 Bc Bl Pk Pr Pl Pc Pm).2.1) ((f_X3_keep a1 a2 Bc Bl Pk Pr Pl Pc Pm).2.2.1) ((f_X3_keep a1 a2 Bc Bl Pk Pr Pl Pc Pm).2.2.2.1) ((f_X3_keep a1 a2 Bc Bl Pk Pr Pl Pc Pm).2.2.2.2) Gf Gt Gx Gd Gm Ek Er Ea Ex Em Eb Et Ss Sm Wg Wr Md) t.heap) (fA 23 ad sz)) 0 0 (fA 23 ad sz) := by
  refine Met.ofW (cc := cX3_keep) (maxL := 4) (ret := none) (by decide) rfl ?_
  intro p e s m args below meth c s₁ B hml hv
  obtain ⟨rfl, hsz, hP, hK, hC⟩ := hv
  have hx := B.exec
  have hb := B.bytes
  have hr := B.returns
  have hts := mW_hts (atoms_spec (ws := (mW yX3_keep cX3_keep 4 none)) B.pre)
  have hown : s.vm.findClass RX3 = some m.cls := findClass_of_methodNamed B.named
  have hlocks := B.notSynchronized
  subst hsz
  have hA : ∀ (n : Nat) (q : Nat), s.heap.size ≤ n → n ≤ q → fA 23 ad s.heap.size q := fun n q h1 h2 => Or.inr (Nat.le_trans h1 h2)
  have hS : va_S (fA 23 ad s.heap.size) s.heap s.heap [] := va_S.rf
  have hA : ∀ q, s.heap.size ≤ q → (fA 23 ad s.heap.size) q := fun q h => Or.inr h
  unfold S_X3_keep at hs
  have hl := lv_entry ([.ref (ad 4), .ref (ad 1), .int a1, .int a2]) (n := 4) (Nat.le_of_ble_eq_true rfl)
  rw [lg_entry_eq]
  generalize (lg_sl ([.ref (ad 4), .ref (ad 1), .int a1, .int a2]) ++ List.replicate (4 - (lg_sl ([.ref (ad 4), .ref (ad 1), .int a1, .int a2])).length) Slot.unset).toArray = ls at hl ⊢
  have hl : lv_has ls 4 [(0, .ref (ad 4)), (1, .ref (ad 1)), (2, .int a1), (3, .int a2)] := hl
  refine W_gen (fun Q9 hQ9 => ?_)
  refine lv_aload_n hx hb dX3_keep_0 rfl (lv_at hl 0 rfl) ?_
  refine va_get (D := (dC, dI)) (ci := 5) (v := .int Pm) (C := RX3) (T := TX3) (N := 5) hx hb hts iW_X3 hown hK hP 4 rfl rfl 4 (by decide) (hts _ mF_RX3_25) (fun _ h9 => h9) rfl dX3_keep_1 ?_
  refine lv_if_lt (tgt := 17) hx hb dX3_keep_4 (by decide) (fun c1 => ?_) (fun c1 => ?_)
  · have hs := hs.1 c1
    rw [hQ9]
    have hf : f_X3_keep a1 a2 Bc Bl Pk Pr Pl Pc Pm = (Pk, Pr, Pl, Pc, Pm) := by simp only [f_X3_keep, if_pos c1]
    exact W.vret hx hb hr (fun t ht hW => ⟨⟨(), rfl, True.intro, by rw [hf]; show va_P (dC, dI) vwCl _ t.heap; rw [ht]; exact hP⟩, hS.F ht⟩) hS.2.2 dX3_keep_17
  · have hs := hs.2 c1
    refine lv_aload_n hx hb dX3_keep_7 rfl (lv_at hl 0 rfl) ?_
    refine va_get (D := (dC, dI)) (ci := 5) (v := .int Pm) (C := RX3) (T := TX3) (N := 5) hx hb hts iW_X3 hown hK hP 4 rfl rfl 4 (by decide) (hts _ mF_RX3_25) (fun _ h9 => h9) rfl dX3_keep_8 ?_
    refine lv_sipush (v := 200) hx hb dX3_keep_11 (by decide) ?_
    refine lv_icmp_lt (tgt := 18) hx hb dX3_keep_14 (by decide) (fun c2 => ?_) (fun c2 => ?_)
    · have hs := hs.1 c2
      refine lv_aload_n hx hb dX3_keep_18 rfl (lv_at hl 0 rfl) ?_
      refine va_get (D := (dC, dI)) (ci := 5) (v := .ref (ad 5)) (C := RX3) (T := TX3) (N := 5) hx hb hts iW_X3 hown hK hP 4 rfl rfl 0 (by decide) (hts _ mF_RX3_9) (fun _ h9 => h9) rfl dX3_keep_19 ?_
      refine lv_aload_n hx hb dX3_keep_22 rfl (lv_at hl 0 rfl) ?_
      refine va_get (D := (dC, dI)) (ci := 5) (v := .int Pm) (C := RX3) (T := TX3) (N := 5) hx hb hts iW_X3 hown hK hP 4 rfl rfl 4 (by decide) (hts _ mF_RX3_25) (fun _ h9 => h9) rfl dX3_keep_23 ?_
      refine lv_iload_n hx hb dX3_keep_26 rfl (lv_at hl 2 rfl) ?_
      obtain ⟨h3, hs⟩ := hs
      refine va_iast hx hb hK hP (fA_D hi rfl) hS 5 0 rfl rfl h3 dX3_keep_27 (fun H locs hP _ hS => ?_)
      have hP : va_P (dC, dI) vwCl (wC ad cI cJ Bc Bl (upd Pk Pm.toNatClampNeg a1) Pr Pl Pc Pm Gf Gt Gx Gd Gm Ek Er Ea Ex Em Eb Et Ss Sm Wg Wr Md) H := hP
      refine lv_aload_n hx hb dX3_keep_28 rfl (lv_at hl 0 rfl) ?_
      refine va_get (D := (dC, dI)) (ci := 5) (v := .ref (ad 6)) (C := RX3) (T := TX3) (N := 5) hx hb hts iW_X3 hown hK hP 4 rfl rfl 1 (by decide) (hts _ mF_RX3_15) (fun _ h9 => h9) rfl dX3_keep_29 ?_
      refine lv_aload_n hx hb dX3_keep_32 rfl (lv_at hl 0 rfl) ?_
      refine va_get (D := (dC, dI)) (ci := 5) (v := .int Pm) (C := RX3) (T := TX3) (N := 5) hx hb hts iW_X3 hown hK hP 4 rfl rfl 4 (by decide) (hts _ mF_RX3_25) (fun _ h9 => h9) rfl dX3_keep_33 ?_
      refine lv_iload_n hx hb dX3_keep_36 rfl (lv_at hl 3 rfl) ?_
      obtain ⟨h4, hs⟩ := hs
      refine va_iast hx hb hK hP (fA_D hi rfl) hS 6 0 rfl rfl h4 dX3_keep_37 (fun H locs hP _ hS => ?_)
      have hP : va_P (dC, dI) vwCl (wC ad cI cJ Bc Bl (upd Pk Pm.toNatClampNeg a1) (upd Pr Pm.toNatClampNeg a2) Pl Pc Pm Gf Gt Gx Gd Gm Ek Er Ea Ex Em Eb Et Ss Sm Wg Wr Md) H := hP
      refine lv_aload_n hx hb dX3_keep_38 rfl (lv_at hl 0 rfl) ?_
      refine va_get (D := (dC, dI)) (ci := 5) (v := .ref (ad 7)) (C := RX3) (T := TX3) (N := 5) hx hb hts iW_X3 hown hK hP 4 rfl rfl 2 (by decide) (hts _ mF_RX3_18) (fun _ h9 => h9) rfl dX3_keep_39 ?_
      refine lv_aload_n hx hb dX3_keep_42 rfl (lv_at hl 0 rfl) ?_
      refine va_get (D := (dC, dI)) (ci := 5) (v := .int Pm) (C := RX3) (T := TX3) (N := 5) hx hb hts iW_X3 hown hK hP 4 rfl rfl 4 (by decide) (hts _ mF_RX3_25) (fun _ h9 => h9) rfl dX3_keep_43 ?_
      refine lv_aload_n hx hb dX3_keep_46 rfl (lv_at hl 1 rfl) ?_
      refine va_get (D := (dC, dI)) (ci := 2) (v := .ref (ad 3)) (C := RX0) (T := TX0) (N := 2) hx hb hts iW_X0 hown hK hP 1 rfl rfl 1 (by decide) (hts _ mF_RX3_29) (fun _ h9 => h9) rfl dX3_keep_47 ?_
      refine lv_iload_n hx hb dX3_keep_50 rfl (lv_at hl 2 rfl) ?_
      refine lv_iload_n hx hb dX3_keep_51 rfl (lv_at hl 3 rfl) ?_
      refine q_X0_place hx hb hml hown hts mM_RX3_32 ⟨Nat.le_of_ble_eq_true rfl, Nat.le_of_ble_eq_true rfl⟩ ⟨Nat.le_of_ble_eq_true rfl, Nat.le_of_ble_eq_true rfl⟩ hl.1 (Nat.le_of_ble_eq_true rfl) hS dX3_keep_52 hA a1 a2 (fun locs hS => ?_)
      obtain ⟨h5, hs⟩ := hs
      refine va_iald hx hb hK hP 3 0 rfl rfl h5 dX3_keep_55 ?_
      obtain ⟨h6, hs⟩ := hs
      refine va_iast hx hb hK hP (fA_D hi rfl) hS 7 0 rfl rfl h6 dX3_keep_56 (fun H locs hP _ hS => ?_)
      have hP : va_P (dC, dI) vwCl (wC ad cI cJ Bc Bl (upd Pk Pm.toNatClampNeg a1) (upd Pr Pm.toNatClampNeg a2) (upd Pl Pm.toNatClampNeg (Bl (f_X0_place a1 a2).toNatClampNeg)) Pc Pm Gf Gt Gx Gd Gm Ek Er Ea Ex Em Eb Et Ss Sm Wg Wr Md) H := hP
      refine lv_aload_n hx hb dX3_keep_57 rfl (lv_at hl 1 rfl) ?_
      refine va_get (D := (dC, dI)) (ci := 2) (v := .ref (ad 2)) (C := RX0) (T := TX0) (N := 2) hx hb hts iW_X0 hown hK hP 1 rfl rfl 0 (by decide) (hts _ mF_RX3_36) (fun _ h9 => h9) rfl dX3_keep_58 ?_
      refine lv_iload_n hx hb dX3_keep_61 rfl (lv_at hl 2 rfl) ?_
      refine lv_iload_n hx hb dX3_keep_62 rfl (lv_at hl 3 rfl) ?_
      obtain ⟨h7, hs⟩ := hs
      refine q_X0_home hx hb hml hown hts mM_RX3_37 ⟨Nat.le_of_ble_eq_true rfl, Nat.le_of_ble_eq_true rfl⟩ ⟨Nat.le_of_ble_eq_true rfl, Nat.le_of_ble_eq_true rfl⟩ hl.1 (Nat.le_of_ble_eq_true rfl) hS dX3_keep_63 hA hC a1 a2 h7 (fun locs hS => ?_)
      refine lv_aload_n hx hb dX3_keep_66 rfl (lv_at hl 0 rfl) ?_
      refine va_get (D := (dC, dI)) (ci := 5) (v := .ref (ad 8)) (C := RX3) (T := TX3) (N := 5) hx hb hts iW_X3 hown hK hP 4 rfl rfl 3 (by decide) (hts _ mF_RX3_21) (fun _ h9 => h9) rfl dX3_keep_67 ?_
      refine lv_aload_n hx hb dX3_keep_70 rfl (lv_at hl 0 rfl) ?_
      refine va_get (D := (dC, dI)) (ci := 5) (v := .int Pm) (C := RX3) (T := TX3) (N := 5) hx hb hts iW_X3 hown hK hP 4 rfl rfl 4 (by decide) (hts _ mF_RX3_25) (fun _ h9 => h9) rfl dX3_keep_71 ?_
      refine lv_bipush (v := 21) hx hb dX3_keep_74 (by decide) ?_
      refine lv_imul hx hb dX3_keep_76 ?_
      obtain ⟨t8, hZt8, hTt8⟩ := hC.2.2.2.1
      refine va_getsN hx hb hZt8 hS hown (va_Nw.use rfl hC.2.2.2.2.2.2.1.2.2) (fun _ h9 => h9) dX3_keep_77 ?_
      refine lv_iload_n hx hb dX3_keep_80 rfl (lv_at hl 2 rfl) ?_
      obtain ⟨h9, hs⟩ := hs
      refine va_ti hx hb hTt8 hS h9 (v := .int (gWIDTHS a1)) rfl dX3_keep_81 ?_
      obtain ⟨h10, hs⟩ := hs
      obtain ⟨h11, hs⟩ := hs
      obtain ⟨h12, hs⟩ := hs
      obtain ⟨h13, hs⟩ := hs
      obtain ⟨h14, hs⟩ := hs
      refine va_copyl hx hb (by rw [hml]; exact hl.1.symm) hown (hts _ mM_RX3_43) (hts _ mcp1) (hts _ mcp2) (hts _ mcp3) hK hP (fA_D hi rfl) hS 2 8 1 1 rfl rfl rfl rfl rfl h10 h11 h12 h13 h14 (fun _ _ => rfl) (Nat.le_of_ble_eq_true rfl) (Nat.le_of_ble_eq_true rfl) dX3_keep_82 (fun H locs hP _ hS => ?_)
      have hP : va_P (dC, dI) vwCl (wC ad cI cJ Bc Bl (upd Pk Pm.toNatClampNeg a1) (upd Pr Pm.toNatClampNeg a2) (upd Pl Pm.toNatClampNeg (Bl (f_X0_place a1 a2).toNatClampNeg)) (va_cpy Bc Pc (f_X0_home a1 a2).toNatClampNeg (Pm * (21 : Int32)).toNatClampNeg (gWIDTHS a1).toNatClampNeg) Pm Gf Gt Gx Gd Gm Ek Er Ea Ex Em Eb Et Ss Sm Wg Wr Md) H := hP
      refine lv_aload_n hx hb dX3_keep_85 rfl (lv_at hl 0 rfl) ?_
      refine lv_dup hx hb dX3_keep_86 rfl ?_
      refine va_get (D := (dC, dI)) (ci := 5) (v := .int Pm) (C := RX3) (T := TX3) (N := 5) hx hb hts iW_X3 hown hK hP 4 rfl rfl 4 (by decide) (hts _ mF_RX3_25) (fun _ h9 => h9) rfl dX3_keep_87 ?_
      refine lv_iconst (v := 1) hx hb dX3_keep_90 (by decide) ?_
      refine lv_iadd hx hb dX3_keep_91 ?_
      refine va_put (D := (dC, dI)) (ci := 5) (v := .int (Pm + (1 : Int32))) (ty := .int) (C := RX3) (T := TX3) (N := 5) hx hb hts iW_X3 tyX3 tyX3_ok nmX3 hown hK hP (fA_D hi rfl) hS 4 rfl rfl 4 (by decide) (hts _ mF_RX3_25) (fun _ h9 => h9) rfl (by decide +kernel) rfl rfl (Nat.le_of_ble_eq_true rfl) dX3_keep_92 (fun H locs hP _ hS => ?_)
      have hP : va_P (dC, dI) vwCl (wC ad cI cJ Bc Bl (upd Pk Pm.toNatClampNeg a1) (upd Pr Pm.toNatClampNeg a2) (upd Pl Pm.toNatClampNeg (Bl (f_X0_place a1 a2).toNatClampNeg)) (va_cpy Bc Pc (f_X0_home a1 a2).toNatClampNeg (Pm * (21 : Int32)).toNatClampNeg (gWIDTHS a1).toNatClampNeg) (Pm + (1 : Int32)) Gf Gt Gx Gd Gm Ek Er Ea Ex Em Eb Et Ss Sm Wg Wr Md) H := hP
      rw [hQ9]
      have hf : f_X3_keep a1 a2 Bc Bl Pk Pr Pl Pc Pm = ((upd Pk Pm.toNatClampNeg a1), (upd Pr Pm.toNatClampNeg a2), (upd Pl Pm.toNatClampNeg (Bl (f_X0_place a1 a2).toNatClampNeg)), (va_cpy Bc Pc (f_X0_home a1 a2).toNatClampNeg (Pm * (21 : Int32)).toNatClampNeg (gWIDTHS a1).toNatClampNeg), (Pm + (1 : Int32))) := by simp only [f_X3_keep, if_neg c1, if_pos c2]
      exact W.vret hx hb hr (fun t ht hW => ⟨⟨(), rfl, True.intro, by rw [hf]; show va_P (dC, dI) vwCl _ t.heap; rw [ht]; exact hP⟩, hS.F ht⟩) hS.2.2 dX3_keep_95
    · have hs := hs.2 c2
      rw [hQ9]
      have hf : f_X3_keep a1 a2 Bc Bl Pk Pr Pl Pc Pm = (Pk, Pr, Pl, Pc, Pm) := by simp only [f_X3_keep, if_neg c1, if_neg c2]
      exact W.vret hx hb hr (fun t ht hW => ⟨⟨(), rfl, True.intro, by rw [hf]; show va_P (dC, dI) vwCl _ t.heap; rw [ht]; exact hP⟩, hS.F ht⟩) hS.2.2 dX3_keep_17
theorem q_X3_keep {p : Program} {l : Launch} {e : Env} {R : Room} {s : State} {m : MethodId} {args : Array Value} {below : List Frame} {meth : Method} {c : Code} {H : Heap} {locs : List Loc} {cells slots : Nat} {Q : State → Prop} {pc : Nat} {ls : Array Slot} {rest : List Value} {cc : ByteArray} {nL idx : Nat} {own : String} {A0 : Nat → Prop} {dC : Nat → ClassId} {dI : Nat → Nat → Nat} {cI cJ : ClassId} {ad : Nat → Nat} {Bc : Nat → Int64} {Bl : Nat → Int32} {Pk : Nat → Int32} {Pr : Nat → Int32} {Pl : Nat → Int32} {Pc : Nat → Int64} {Pm : Int32} {Gf : Nat → Int32} {Gt : Nat → Int32} {Gx : Nat → Int32} {Gd : Int32} {Gm : Int32} {Ek : Nat → Int32} {Er : Nat → Int32} {Ea : Nat → Int32} {Ex : Nat → Int32} {Em : Int32} {Eb : Int32} {Et : Int32} {Ss : Nat → Int32} {Sm : Int32} {Wg : Nat → Int64} {Wr : Nat → Int64} {Md : Nat → Int64} (hx : p.tables.exec = Jvm.exec) (hb : c.code = cc) (hml : c.maxLocals = nL) (hown : s.vm.findClass own = some m.cls) (hts : ∀ w ∈ bigW, w.before args s = true) (hlk : Cond.methodLink own idx yX3_keep ∈ bigW) (hR : 2 ≤ R.frames ∧ 83 ≤ R.locals) (hf : cells + 0 ≤ R.cells ∧ slots + 0 ≤ R.slots) (hz : ls.size = nL) (hw : (rest.map fun v => v.category).sum ≤ 8) (hS : va_S A0 s.heap H locs) (hd : decode cc pc = .ok (.invokevirtual idx, 3)) (hA : ∀ q, fA 23 ad H.size q → A0 q) (hi : fI 23 ad) (hK : va_K (dC, dI) vwCl [(cI, .int), (cJ, .long)] s) (hP : va_P (dC, dI) vwCl (wC ad cI cJ Bc Bl Pk Pr Pl Pc Pm Gf Gt Gx Gd Gm Ek Er Ea Ex Em Eb Et Ss Sm Wg Wr Md) H) (hC : cxt A0 s s.heap) (a1 : Int32) (a2 : Int32) (hs : S_X3_keep a1 a2 Bc Bl Pk Pr Pl Pc Pm)  (u : (Nat → Int32) × (Nat → Int32) × (Nat → Int32) × (Nat → Int64) × Int32) (hu : u = f_X3_keep a1 a2 Bc Bl Pk Pr Pl Pc Pm) (k : ∀ (H1 : Heap) (locs1 : List Loc), va_P (dC, dI) vwCl (wC ad cI cJ Bc Bl u.1 u.2.1 u.2.2.1 u.2.2.2.1 u.2.2.2.2 Gf Gt Gx Gd Gm Ek Er Ea Ex Em Eb Et Ss Sm Wg Wr Md) H1 → va_S A0 s.heap H1 locs1 → W p l e R s m args below meth c H1 locs1 (cells + 0) (slots + 0) Q (F0 m (pc + 3) ls (rest))) : W p l e R s m args below meth c H locs cells slots Q (F0 m pc ls (.int a2 :: .int a1 :: .ref (ad 1) :: .ref (ad 4) :: rest)) := by
  subst hu
  exact va_callv (va_runV (As := [.ref (ad 1), .int a1, .int a2]) (rest := rest) ⟨hx, hb, hml, hown, hts⟩ (c_X3_keep l dC dI cI cJ ad hi H.size Bc Bl Pk Pr Pl Pc Pm Gf Gt Gx Gd Gm Ek Er Ea Ex Em Eb Et Ss Sm Wg Wr Md a1 a2 hs) (kV 3 hts hlk mI_X3_keep mN_RX3 mY_X3_keep mV_X3_keep rfl rfl (by decide +kernel) hR) ⟨fun a U g mk q => ⟨q.1, q.2.1, q.2.2.1, va_K.moved (u := U) (U := U.calling g mk a) (Vm.Alike.refl U.vm) q.2.2.2.1, q.2.2.2.2.call⟩, va_recv hK hP (ci := 5) (q0 := 4) rfl rfl, fun U hU hW => ⟨rfl, by rw [hU], by rw [hU]; exact hP, va_K.moved hW.alike hK, hC.here hS hU hW hA⟩⟩ rfl rfl hz rfl (lv_room hw) hd hf) hS (fun q _ h => hA q h) (fun q h => hA q h) (fun u t H1 locs1 ht hvm hw9 hB hz1 hk1 hS1 => by
    skip
    exact k H1 locs1 (by rw [← ht]; exact hB) hS1)

def f_X4_signAt (a0 : Int32) (Ss : Nat → Int32) (Sm : Int32) : Int32 := (if a0 < 0 then (-1 : Int32) else (if Sm ≤ a0 then (-1 : Int32) else (if a0 < (61 : Int32) then (Ss a0.toNatClampNeg) else (-1 : Int32))))
def S_X4_signAt (a0 : Int32) (Ss : Nat → Int32) (Sm : Int32) : Prop := (a0 < 0 → (True)) ∧ (¬ a0 < 0 → ((Sm ≤ a0 → (True)) ∧ (¬ Sm ≤ a0 → ((a0 < (61 : Int32) → ((vp_in a0 61) ∧ (True))) ∧ (¬ a0 < (61 : Int32) → (True))))))
set_option maxHeartbeats 4000000 in
set_option maxRecDepth 100000 in
theorem c_X4_signAt (l : Launch) (dC : Nat → ClassId) (dI : Nat → Nat → Nat) (cI cJ : ClassId) (ad : Nat → Nat) (hi : fI 23 ad) (sz : Nat) (Bc : Nat → Int64) (Bl : Nat → Int32) (Pk : Nat → Int32) (Pr : Nat → Int32) (Pl : Nat → Int32) (Pc : Nat → Int64) (Pm : Int32) (Gf : Nat → Int32) (Gt : Nat → Int32) (Gx : Nat → Int32) (Gd : Int32) (Gm : Int32) (Ek : Nat → Int32) (Er : Nat → Int32) (Ea : Nat → Int32) (Ex : Nat → Int32) (Em : Int32) (Eb : Int32) (Et : Int32) (Ss : Nat → Int32) (Sm : Int32) (Wg : Nat → Int64) (Wr : Nat → Int64) (Md : Nat → Int64) (a0 : Int32) (hs : S_X4_signAt a0 Ss Sm) : Met l yX4_signAt (mW yX4_signAt cX4_signAt 2 (some .int)) { frames := 0, cells := 0, slots := 0, locals := 0 } (va_Pc [.ref (ad 18), .int a0] (fun U => U.heap.size = sz ∧ va_P (dC, dI) vwCl (wC ad cI cJ Bc Bl Pk Pr Pl Pc Pm Gf Gt Gx Gd Gm Ek Er Ea Ex Em Eb Et Ss Sm Wg Wr Md) U.heap ∧ va_K (dC, dI) vwCl [(cI, .int), (cJ, .long)] U)) (va_Qi (fun (r : Int32) (_ : Unit) => r = f_X4_signAt a0 Ss Sm) (fun _ t => va_P (dC, dI) vwCl (wC ad cI cJ Bc Bl Pk Pr Pl Pc Pm Gf Gt Gx Gd Gm Ek Er Ea Ex Em Eb Et Ss Sm Wg Wr Md) t.heap) (fA 23 ad sz)) 0 0 (fA 23 ad sz) := by
  refine Met.ofW (cc := cX4_signAt) (maxL := 2) (ret := (some .int)) (by decide) rfl ?_
  intro p e s m args below meth c s₁ B hml hv
  obtain ⟨rfl, hsz, hP, hK⟩ := hv
  have hx := B.exec
  have hb := B.bytes
  have hr := B.returns
  have hts := mW_hts (atoms_spec (ws := (mW yX4_signAt cX4_signAt 2 (some .int))) B.pre)
  have hown : s.vm.findClass RX4 = some m.cls := findClass_of_methodNamed B.named
  have hlocks := B.notSynchronized
  subst hsz
  have hA : ∀ (n : Nat) (q : Nat), s.heap.size ≤ n → n ≤ q → fA 23 ad s.heap.size q := fun n q h1 h2 => Or.inr (Nat.le_trans h1 h2)
  have hS : va_S (fA 23 ad s.heap.size) s.heap s.heap [] := va_S.rf
  have hA : ∀ q, s.heap.size ≤ q → (fA 23 ad s.heap.size) q := fun q h => Or.inr h
  unfold S_X4_signAt at hs
  have hl := lv_entry ([.ref (ad 18), .int a0]) (n := 2) (Nat.le_of_ble_eq_true rfl)
  rw [lg_entry_eq]
  generalize (lg_sl ([.ref (ad 18), .int a0]) ++ List.replicate (2 - (lg_sl ([.ref (ad 18), .int a0])).length) Slot.unset).toArray = ls at hl ⊢
  have hl : lv_has ls 2 [(0, .ref (ad 18)), (1, .int a0)] := hl
  refine W_gen (fun Q9 hQ9 => ?_)
  refine lv_iload_n hx hb dX4_signAt_0 rfl (lv_at hl 1 rfl) ?_
  refine lv_if_lt (tgt := 18) hx hb dX4_signAt_1 (by decide) (fun c1 => ?_) (fun c1 => ?_)
  · have hs := hs.1 c1
    refine lv_iconst (v := (-1)) hx hb dX4_signAt_18 (by decide) ?_
    refine lv_goto (tgt := 28) hx hb dX4_signAt_19 (by decide) ?_
    rw [hQ9]
    have hf : f_X4_signAt a0 Ss Sm = (-1 : Int32) := by simp only [f_X4_signAt, if_pos c1]
    exact W.iret (v := (-1 : Int32)) hx hb hr (fun t ht hW => ⟨⟨(-1 : Int32), (), rfl, by rw [hf], by show va_P (dC, dI) vwCl _ t.heap; rw [ht]; exact hP⟩, hS.F ht⟩) hS.2.2 dX4_signAt_28
  · have hs := hs.2 c1
    refine lv_iload_n hx hb dX4_signAt_4 rfl (lv_at hl 1 rfl) ?_
    refine lv_aload_n hx hb dX4_signAt_5 rfl (lv_at hl 0 rfl) ?_
    refine va_get (D := (dC, dI)) (ci := 6) (v := .int Sm) (C := RX4) (T := TX4) (N := 2) hx hb hts iW_X4 hown hK hP 18 rfl rfl 1 (by decide) (hts _ mF_RX4_15) (fun _ h9 => h9) rfl dX4_signAt_6 ?_
    refine lv_icmp_ge (tgt := 18) hx hb dX4_signAt_9 (by decide) (fun c2 => ?_) (fun c2 => ?_)
    · have hs := hs.1 c2
      refine lv_iconst (v := (-1)) hx hb dX4_signAt_18 (by decide) ?_
      refine lv_goto (tgt := 28) hx hb dX4_signAt_19 (by decide) ?_
      rw [hQ9]
      have hf : f_X4_signAt a0 Ss Sm = (-1 : Int32) := by simp only [f_X4_signAt, if_neg c1, if_pos c2]
      exact W.iret (v := (-1 : Int32)) hx hb hr (fun t ht hW => ⟨⟨(-1 : Int32), (), rfl, by rw [hf], by show va_P (dC, dI) vwCl _ t.heap; rw [ht]; exact hP⟩, hS.F ht⟩) hS.2.2 dX4_signAt_28
    · have hs := hs.2 c2
      refine lv_iload_n hx hb dX4_signAt_12 rfl (lv_at hl 1 rfl) ?_
      refine lv_bipush (v := 61) hx hb dX4_signAt_13 (by decide) ?_
      refine lv_icmp_lt (tgt := 22) hx hb dX4_signAt_15 (by decide) (fun c3 => ?_) (fun c3 => ?_)
      · have hs := hs.1 c3
        refine lv_aload_n hx hb dX4_signAt_22 rfl (lv_at hl 0 rfl) ?_
        refine va_get (D := (dC, dI)) (ci := 6) (v := .ref (ad 19)) (C := RX4) (T := TX4) (N := 2) hx hb hts iW_X4 hown hK hP 18 rfl rfl 0 (by decide) (hts _ mF_RX4_9) (fun _ h9 => h9) rfl dX4_signAt_23 ?_
        refine lv_iload_n hx hb dX4_signAt_26 rfl (lv_at hl 1 rfl) ?_
        obtain ⟨h4, hs⟩ := hs
        refine va_iald hx hb hK hP 19 0 rfl rfl h4 dX4_signAt_27 ?_
        rw [hQ9]
        have hf : f_X4_signAt a0 Ss Sm = (Ss a0.toNatClampNeg) := by simp only [f_X4_signAt, if_neg c1, if_neg c2, if_pos c3]
        exact W.iret (v := (Ss a0.toNatClampNeg)) hx hb hr (fun t ht hW => ⟨⟨(Ss a0.toNatClampNeg), (), rfl, by rw [hf], by show va_P (dC, dI) vwCl _ t.heap; rw [ht]; exact hP⟩, hS.F ht⟩) hS.2.2 dX4_signAt_28
      · have hs := hs.2 c3
        refine lv_iconst (v := (-1)) hx hb dX4_signAt_18 (by decide) ?_
        refine lv_goto (tgt := 28) hx hb dX4_signAt_19 (by decide) ?_
        rw [hQ9]
        have hf : f_X4_signAt a0 Ss Sm = (-1 : Int32) := by simp only [f_X4_signAt, if_neg c1, if_neg c2, if_neg c3]
        exact W.iret (v := (-1 : Int32)) hx hb hr (fun t ht hW => ⟨⟨(-1 : Int32), (), rfl, by rw [hf], by show va_P (dC, dI) vwCl _ t.heap; rw [ht]; exact hP⟩, hS.F ht⟩) hS.2.2 dX4_signAt_28
theorem q_X4_signAt {p : Program} {l : Launch} {e : Env} {R : Room} {s : State} {m : MethodId} {args : Array Value} {below : List Frame} {meth : Method} {c : Code} {H : Heap} {locs : List Loc} {cells slots : Nat} {Q : State → Prop} {pc : Nat} {ls : Array Slot} {rest : List Value} {cc : ByteArray} {nL idx : Nat} {own : String} {A0 : Nat → Prop} {dC : Nat → ClassId} {dI : Nat → Nat → Nat} {cI cJ : ClassId} {ad : Nat → Nat} {Bc : Nat → Int64} {Bl : Nat → Int32} {Pk : Nat → Int32} {Pr : Nat → Int32} {Pl : Nat → Int32} {Pc : Nat → Int64} {Pm : Int32} {Gf : Nat → Int32} {Gt : Nat → Int32} {Gx : Nat → Int32} {Gd : Int32} {Gm : Int32} {Ek : Nat → Int32} {Er : Nat → Int32} {Ea : Nat → Int32} {Ex : Nat → Int32} {Em : Int32} {Eb : Int32} {Et : Int32} {Ss : Nat → Int32} {Sm : Int32} {Wg : Nat → Int64} {Wr : Nat → Int64} {Md : Nat → Int64} (hx : p.tables.exec = Jvm.exec) (hb : c.code = cc) (hml : c.maxLocals = nL) (hown : s.vm.findClass own = some m.cls) (hts : ∀ w ∈ bigW, w.before args s = true) (hlk : Cond.methodLink own idx yX4_signAt ∈ bigW) (hR : 1 ≤ R.frames ∧ 21 ≤ R.locals) (hf : cells + 0 ≤ R.cells ∧ slots + 0 ≤ R.slots) (hz : ls.size = nL) (hw : (rest.map fun v => v.category).sum ≤ 8) (hS : va_S A0 s.heap H locs) (hd : decode cc pc = .ok (.invokevirtual idx, 3)) (hA : ∀ q, fA 23 ad H.size q → A0 q) (hi : fI 23 ad) (hK : va_K (dC, dI) vwCl [(cI, .int), (cJ, .long)] s) (hP : va_P (dC, dI) vwCl (wC ad cI cJ Bc Bl Pk Pr Pl Pc Pm Gf Gt Gx Gd Gm Ek Er Ea Ex Em Eb Et Ss Sm Wg Wr Md) H) (a0 : Int32) (hs : S_X4_signAt a0 Ss Sm)  (u : Int32) (hu : u = f_X4_signAt a0 Ss Sm) (k : ∀ (H1 : Heap) (locs1 : List Loc), va_P (dC, dI) vwCl (wC ad cI cJ Bc Bl Pk Pr Pl Pc Pm Gf Gt Gx Gd Gm Ek Er Ea Ex Em Eb Et Ss Sm Wg Wr Md) H1 → va_S A0 s.heap H1 locs1 → W p l e R s m args below meth c H1 locs1 (cells + 0) (slots + 0) Q (F0 m (pc + 3) ls (.int u :: rest))) : W p l e R s m args below meth c H locs cells slots Q (F0 m pc ls (.int a0 :: .ref (ad 18) :: rest)) := by
  subst hu
  exact va_calli (va_runV (As := [.int a0]) (rest := rest) ⟨hx, hb, hml, hown, hts⟩ (c_X4_signAt l dC dI cI cJ ad hi H.size Bc Bl Pk Pr Pl Pc Pm Gf Gt Gx Gd Gm Ek Er Ea Ex Em Eb Et Ss Sm Wg Wr Md a0 hs) (kV 1 hts hlk mI_X4_signAt mN_RX4 mY_X4_signAt mV_X4_signAt rfl rfl (by decide +kernel) hR) ⟨fun a U g mk q => ⟨q.1, q.2.1, q.2.2.1, va_K.moved (u := U) (U := U.calling g mk a) (Vm.Alike.refl U.vm) q.2.2.2⟩, va_recv hK hP (ci := 6) (q0 := 18) rfl rfl, fun U hU hW => ⟨rfl, by rw [hU], by rw [hU]; exact hP, va_K.moved hW.alike hK⟩⟩ rfl rfl hz rfl (lv_room hw) hd hf) hS (fun q _ h => hA q h) (fun q h => hA q h) (fun r u t H1 locs1 ht hvm hw9 hB hz1 hk1 hS1 => by
    subst hw9
    exact k H1 locs1 (by rw [← ht]; exact hB) hS1)

def L_X4_writeDigits_37 : Nat → Int64 → Int32 → (Nat → Int32) → Int32 → Int64 → Int64 × Int32 × (Nat → Int32) × Int32
  | 0, x3, x5, Ss, Sm, x1 => (x3, x5, Ss, Sm)
  | n + 1, x3, x5, Ss, Sm, x1 => (if (9 : Int32) < x5 then (x3, x5, Ss, Sm) else (if x3 ≤ (0 : Int64) then (x3, x5, Ss, Sm) else (let u8 := f_X4_write ((48 : Int32) + ((x1 / x3) - (x1 / x3) / (10 : Int64) * (10 : Int64)).toInt32) Ss Sm; L_X4_writeDigits_37 n (x3 / (10 : Int64)) (x5 + 1) u8.1 u8.2 x1)))
def SL_X4_writeDigits_37 : Nat → Int64 → Int32 → (Nat → Int32) → Int32 → Int64 → Prop
  | 0, _, _, _, _, _ => False
  | n + 1, x3, x5, Ss, Sm, x1 => ((9 : Int32) < x5 → (True)) ∧ (¬ (9 : Int32) < x5 → ((x3 ≤ (0 : Int64) → (True)) ∧ (¬ x3 ≤ (0 : Int64) → ((¬ x3 = 0) ∧ ((S_X4_write ((48 : Int32) + ((x1 / x3) - (x1 / x3) / (10 : Int64) * (10 : Int64)).toInt32) Ss Sm) ∧ (∀ u8, u8 = f_X4_write ((48 : Int32) + ((x1 / x3) - (x1 / x3) / (10 : Int64) * (10 : Int64)).toInt32) Ss Sm → (SL_X4_writeDigits_37 n (x3 / (10 : Int64)) (x5 + 1) u8.1 u8.2 x1)))))))
def L_X4_writeDigits_5 : Nat → Int64 → Int32 → Int64 → Int64 × Int32
  | 0, x3, x5, x1 => (x3, x5)
  | n + 1, x3, x5, x1 => (if (9 : Int32) ≤ x5 then (x3, x5) else (if (x1 / (10 : Int64)) < x3 then (x3, x5) else L_X4_writeDigits_5 n (x3 * (10 : Int64)) (x5 + 1) x1))
def SL_X4_writeDigits_5 : Nat → Int64 → Int32 → Int64 → Prop
  | 0, _, _, _ => False
  | n + 1, x3, x5, x1 => ((9 : Int32) ≤ x5 → (True)) ∧ (¬ (9 : Int32) ≤ x5 → (((x1 / (10 : Int64)) < x3 → (True)) ∧ (¬ (x1 / (10 : Int64)) < x3 → (SL_X4_writeDigits_5 n (x3 * (10 : Int64)) (x5 + 1) x1))))
def f_X4_writeDigits (a0 : Int64) (Ss : Nat → Int32) (Sm : Int32) : (Nat → Int32) × Int32 := (let u1 := L_X4_writeDigits_5 10 (1 : Int64) (0 : Int32) a0; (let u4 := L_X4_writeDigits_37 12 u1.1 (0 : Int32) Ss Sm a0; (u4.2.2.1, u4.2.2.2)))
def S_X4_writeDigits (a0 : Int64) (Ss : Nat → Int32) (Sm : Int32) : Prop := (SL_X4_writeDigits_5 10 (1 : Int64) (0 : Int32) a0) ∧ (∀ u1, u1 = L_X4_writeDigits_5 10 (1 : Int64) (0 : Int32) a0 → ((SL_X4_writeDigits_37 12 u1.1 (0 : Int32) Ss Sm a0) ∧ (∀ u4, u4 = L_X4_writeDigits_37 12 u1.1 (0 : Int32) Ss Sm a0 → (True))))
set_option maxHeartbeats 4000000 in
set_option maxRecDepth 100000 in
theorem c_X4_writeDigits (l : Launch) (dC : Nat → ClassId) (dI : Nat → Nat → Nat) (cI cJ : ClassId) (ad : Nat → Nat) (hi : fI 23 ad) (sz : Nat) (Bc : Nat → Int64) (Bl : Nat → Int32) (Pk : Nat → Int32) (Pr : Nat → Int32) (Pl : Nat → Int32) (Pc : Nat → Int64) (Pm : Int32) (Gf : Nat → Int32) (Gt : Nat → Int32) (Gx : Nat → Int32) (Gd : Int32) (Gm : Int32) (Ek : Nat → Int32) (Er : Nat → Int32) (Ea : Nat → Int32) (Ex : Nat → Int32) (Em : Int32) (Eb : Int32) (Et : Int32) (Ss : Nat → Int32) (Sm : Int32) (Wg : Nat → Int64) (Wr : Nat → Int64) (Md : Nat → Int64) (a0 : Int64) (hs : S_X4_writeDigits a0 Ss Sm) : Met l yX4_writeDigits (mW yX4_writeDigits cX4_writeDigits 6 none) { frames := 1, cells := 0, slots := 0, locals := 21 } (va_Pc [.ref (ad 18), .long a0] (fun U => U.heap.size = sz ∧ va_P (dC, dI) vwCl (wC ad cI cJ Bc Bl Pk Pr Pl Pc Pm Gf Gt Gx Gd Gm Ek Er Ea Ex Em Eb Et Ss Sm Wg Wr Md) U.heap ∧ va_K (dC, dI) vwCl [(cI, .int), (cJ, .long)] U)) (va_Qv (fun (_ : Unit) => True) (fun _ t => va_P (dC, dI) vwCl (wC ad cI cJ Bc Bl Pk Pr Pl Pc Pm Gf Gt Gx Gd Gm Ek Er Ea Ex Em Eb Et ((f_X4_writeDigits a0 Ss Sm).1) ((f_X4_writeDigits a0 Ss Sm).2) Wg Wr Md) t.heap) (fA 23 ad sz)) 0 0 (fA 23 ad sz) := by
  refine Met.ofW (cc := cX4_writeDigits) (maxL := 6) (ret := none) (by decide) rfl ?_
  intro p e s m args below meth c s₁ B hml hv
  obtain ⟨rfl, hsz, hP, hK⟩ := hv
  have hx := B.exec
  have hb := B.bytes
  have hr := B.returns
  have hts := mW_hts (atoms_spec (ws := (mW yX4_writeDigits cX4_writeDigits 6 none)) B.pre)
  have hown : s.vm.findClass RX4 = some m.cls := findClass_of_methodNamed B.named
  have hlocks := B.notSynchronized
  subst hsz
  have hA : ∀ (n : Nat) (q : Nat), s.heap.size ≤ n → n ≤ q → fA 23 ad s.heap.size q := fun n q h1 h2 => Or.inr (Nat.le_trans h1 h2)
  have hS : va_S (fA 23 ad s.heap.size) s.heap s.heap [] := va_S.rf
  have hA : ∀ q, s.heap.size ≤ q → (fA 23 ad s.heap.size) q := fun q h => Or.inr h
  unfold S_X4_writeDigits at hs
  have hl := lv_entry ([.ref (ad 18), .long a0]) (n := 6) (Nat.le_of_ble_eq_true rfl)
  rw [lg_entry_eq]
  generalize (lg_sl ([.ref (ad 18), .long a0]) ++ List.replicate (6 - (lg_sl ([.ref (ad 18), .long a0])).length) Slot.unset).toArray = ls at hl ⊢
  have hl : lv_has ls 6 [(0, .ref (ad 18)), (1, .long a0)] := hl
  refine W_gen (fun Q9 hQ9 => ?_)
  refine lv_lconst (v := 1) hx hb dX4_writeDigits_0 (by decide) ?_
  refine lv_lstore_n (lv' := [(3, .long (1 : Int64)), (0, .ref (ad 18)), (1, .long a0)]) hx hb dX4_writeDigits_1 rfl hl (by decide) rfl (fun ls hl => ?_)
  refine lv_iconst (v := 0) hx hb dX4_writeDigits_2 (by decide) ?_
  refine lv_istore (lv' := [(5, .int (0 : Int32)), (3, .long (1 : Int64)), (0, .ref (ad 18)), (1, .long a0)]) hx hb dX4_writeDigits_3 hl (by decide) rfl (fun ls hl => ?_)
  obtain ⟨h2, hs⟩ := hs
  obtain ⟨u1, hu1⟩ : ∃ z, z = L_X4_writeDigits_5 10 (1 : Int64) (0 : Int32) a0 := ⟨_, rfl⟩
  have hs := hs u1 hu1
  have hex3 : ∀ (H : Heap) (locs : List Loc) (ls : Array Slot), va_P (dC, dI) vwCl (wC ad cI cJ Bc Bl Pk Pr Pl Pc Pm Gf Gt Gx Gd Gm Ek Er Ea Ex Em Eb Et Ss Sm Wg Wr Md) H → va_S (fA 23 ad s.heap.size) s.heap H locs → lv_has ls 6 [(3, .long u1.1), (5, .int u1.2), (0, .ref (ad 18)), (1, .long a0)] → W p l e (headSpec (mW yX4_writeDigits cX4_writeDigits 6 none) { frames := 1, cells := 0, slots := 0, locals := 21 }).room s m ([.ref (ad 18), .long a0] : List Value).toArray below meth c H locs 0 0 Q9 (F0 m 34 ls []) := by
    intro H locs ls hP hS hl
    refine lv_iconst (v := 0) hx hb dX4_writeDigits_34 (by decide) ?_
    refine lv_istore (lv' := [(5, .int (0 : Int32)), (3, .long u1.1), (0, .ref (ad 18)), (1, .long a0)]) hx hb dX4_writeDigits_35 hl (by decide) rfl (fun ls hl => ?_)
    obtain ⟨h5, hs⟩ := hs
    obtain ⟨u4, hu4⟩ : ∃ z, z = L_X4_writeDigits_37 12 u1.1 (0 : Int32) Ss Sm a0 := ⟨_, rfl⟩
    have hs := hs u4 hu4
    have hex6 : ∀ (H : Heap) (locs : List Loc) (ls : Array Slot), va_P (dC, dI) vwCl (wC ad cI cJ Bc Bl Pk Pr Pl Pc Pm Gf Gt Gx Gd Gm Ek Er Ea Ex Em Eb Et u4.2.2.1 u4.2.2.2 Wg Wr Md) H → va_S (fA 23 ad s.heap.size) s.heap H locs → lv_has ls 6 [(3, .long u4.1), (5, .int u4.2.1), (0, .ref (ad 18)), (1, .long a0)] → W p l e (headSpec (mW yX4_writeDigits cX4_writeDigits 6 none) { frames := 1, cells := 0, slots := 0, locals := 21 }).room s m ([.ref (ad 18), .long a0] : List Value).toArray below meth c H locs 0 0 Q9 (F0 m 77 ls []) := by
      intro H locs ls hP hS hl
      rw [hQ9]
      have hf : f_X4_writeDigits a0 Ss Sm = (u4.2.2.1, u4.2.2.2) := by simp only [f_X4_writeDigits, ← hu1, ← hu4]
      exact W.vret hx hb hr (fun t ht hW => ⟨⟨(), rfl, True.intro, by rw [hf]; show va_P (dC, dI) vwCl _ t.heap; rw [ht]; exact hP⟩, hS.F ht⟩) hS.2.2 dX4_writeDigits_77
    have hlp7 : ∀ (n : Nat) (x3v : Int64) (x5v : Int32) (Ssv : Nat → Int32) (Smv : Int32) (H : Heap) (locs : List Loc) (ls : Array Slot), SL_X4_writeDigits_37 n x3v x5v Ssv Smv a0 → u4 = L_X4_writeDigits_37 n x3v x5v Ssv Smv a0 → va_P (dC, dI) vwCl (wC ad cI cJ Bc Bl Pk Pr Pl Pc Pm Gf Gt Gx Gd Gm Ek Er Ea Ex Em Eb Et Ssv Smv Wg Wr Md) H → va_S (fA 23 ad s.heap.size) s.heap H locs → lv_has ls 6 [(3, .long x3v), (5, .int x5v), (0, .ref (ad 18)), (1, .long a0)] → W p l e (headSpec (mW yX4_writeDigits cX4_writeDigits 6 none) { frames := 1, cells := 0, slots := 0, locals := 21 }).room s m ([.ref (ad 18), .long a0] : List Value).toArray below meth c H locs 0 0 Q9 (F0 m 37 ls []) := by
      intro n
      induction n with
      | zero => intro x3v x5v Ssv Smv H locs ls hs; rw [SL_X4_writeDigits_37] at hs; exact hs.elim
      | succ n ih =>
        intro x3v x5v Ssv Smv H locs ls hs hq8 hP hS hl
        rw [SL_X4_writeDigits_37] at hs
        refine lv_iload hx hb dX4_writeDigits_37 (lv_at hl 1 rfl) ?_
        refine lv_bipush (v := 9) hx hb dX4_writeDigits_39 (by decide) ?_
        refine lv_icmp_gt (tgt := 77) hx hb dX4_writeDigits_41 (by decide) (fun c9 => ?_) (fun c9 => ?_)
        · have hs := hs.1 c9
          have he10 : u4 = (x3v, x5v, Ssv, Smv) := by rw [hq8, L_X4_writeDigits_37]; simp only [if_pos c9, ↓reduceIte]
          exact hex6 _ _ _ (by first | exact hP | (rw [he10]; exact hP)) hS (by first | exact lv_sub hl [0, 1, 2, 3] rfl | (rw [he10]; exact lv_sub hl [0, 1, 2, 3] rfl))
        · have hs := hs.2 c9
          refine lv_lload_n hx hb dX4_writeDigits_44 rfl (lv_at hl 0 rfl) ?_
          refine lv_lconst (v := 0) hx hb dX4_writeDigits_45 (by decide) ?_
          refine W.lcmp hx hb dX4_writeDigits_46 ?_
          refine lv_if_le (tgt := 77) hx hb dX4_writeDigits_47 (by decide) (fun c11 => ?_) (fun c11 => ?_)
          · have c11 : x3v ≤ (0 : Int64) := lc_le.mp c11
            have hs := hs.1 c11
            have he12 : u4 = (x3v, x5v, Ssv, Smv) := by rw [hq8, L_X4_writeDigits_37]; simp only [if_neg c9, if_pos c11, ↓reduceIte]
            exact hex6 _ _ _ (by first | exact hP | (rw [he12]; exact hP)) hS (by first | exact lv_sub hl [0, 1, 2, 3] rfl | (rw [he12]; exact lv_sub hl [0, 1, 2, 3] rfl))
          · have c11 : ¬ x3v ≤ (0 : Int64) := fun z => c11 (lc_le.mpr z)
            have hs := hs.2 c11
            refine lv_aload_n hx hb dX4_writeDigits_50 rfl (lv_at hl 2 rfl) ?_
            refine lv_bipush (v := 48) hx hb dX4_writeDigits_51 (by decide) ?_
            refine lv_lload_n hx hb dX4_writeDigits_53 rfl (lv_at hl 3 rfl) ?_
            refine lv_lload_n hx hb dX4_writeDigits_54 rfl (lv_at hl 0 rfl) ?_
            obtain ⟨h13, hs⟩ := hs
            refine lv_ldiv hx hb dX4_writeDigits_55 h13 ?_
            refine lv_ldc2 hx hb hown (hts _ mK_RX4_37) dX4_writeDigits_56 ?_
            refine lv_lrem hx hb dX4_writeDigits_59 (by decide) ?_
            refine lv_l2i hx hb dX4_writeDigits_60 rfl ?_
            refine lv_iadd hx hb dX4_writeDigits_61 ?_
            obtain ⟨h14, hs⟩ := hs
            obtain ⟨u15, hu15⟩ : ∃ z, z = f_X4_write ((48 : Int32) + ((a0 / x3v) - (a0 / x3v) / (10 : Int64) * (10 : Int64)).toInt32) Ssv Smv := ⟨_, rfl⟩
            have hs := hs u15 hu15
            refine q_X4_write hx hb hml hown hts mM_RX4_29 ⟨Nat.le_of_ble_eq_true rfl, Nat.le_of_ble_eq_true rfl⟩ ⟨Nat.le_of_ble_eq_true rfl, Nat.le_of_ble_eq_true rfl⟩ hl.1 (Nat.le_of_ble_eq_true rfl) hS dX4_writeDigits_62 (fun _ h9 => fA_mono hS.1 h9) hi hK hP ((48 : Int32) + ((a0 / x3v) - (a0 / x3v) / (10 : Int64) * (10 : Int64)).toInt32) h14 u15 hu15 (fun H locs hP hS => ?_)
            refine lv_lload_n hx hb dX4_writeDigits_65 rfl (lv_at hl 0 rfl) ?_
            refine lv_ldc2 hx hb hown (hts _ mK_RX4_37) dX4_writeDigits_66 ?_
            refine lv_ldiv hx hb dX4_writeDigits_69 (by decide) ?_
            refine lv_lstore_n (lv' := [(3, .long (x3v / (10 : Int64))), (5, .int x5v), (0, .ref (ad 18)), (1, .long a0)]) hx hb dX4_writeDigits_70 rfl hl (by decide) rfl (fun ls hl => ?_)
            refine lv_iinc (v := (x5v + 1)) (lv' := [(5, .int (x5v + 1)), (3, .long (x3v / (10 : Int64))), (0, .ref (ad 18)), (1, .long a0)]) hx hb dX4_writeDigits_71 hl (k := 1) rfl rfl (by decide) rfl (fun ls hl => ?_)
            refine lv_goto (tgt := 37) hx hb dX4_writeDigits_74 (by decide) ?_
            exact ih (x3v / (10 : Int64)) (x5v + 1) u15.1 u15.2 _ _ _ hs (by rw [hq8, L_X4_writeDigits_37]; simp only [if_neg c9, if_neg c11, ← hu15, ↓reduceIte]) hP hS (lv_sub hl [1, 0, 2, 3] rfl)
    exact hlp7 12 u1.1 (0 : Int32) Ss Sm _ _ _ h5 hu4 hP hS (lv_sub hl [1, 0, 2, 3] rfl)
  have hlp16 : ∀ (n : Nat) (x3v : Int64) (x5v : Int32) (H : Heap) (locs : List Loc) (ls : Array Slot), SL_X4_writeDigits_5 n x3v x5v a0 → u1 = L_X4_writeDigits_5 n x3v x5v a0 → va_P (dC, dI) vwCl (wC ad cI cJ Bc Bl Pk Pr Pl Pc Pm Gf Gt Gx Gd Gm Ek Er Ea Ex Em Eb Et Ss Sm Wg Wr Md) H → va_S (fA 23 ad s.heap.size) s.heap H locs → lv_has ls 6 [(3, .long x3v), (5, .int x5v), (0, .ref (ad 18)), (1, .long a0)] → W p l e (headSpec (mW yX4_writeDigits cX4_writeDigits 6 none) { frames := 1, cells := 0, slots := 0, locals := 21 }).room s m ([.ref (ad 18), .long a0] : List Value).toArray below meth c H locs 0 0 Q9 (F0 m 5 ls []) := by
    intro n
    induction n with
    | zero => intro x3v x5v H locs ls hs; rw [SL_X4_writeDigits_5] at hs; exact hs.elim
    | succ n ih =>
      intro x3v x5v H locs ls hs hq17 hP hS hl
      rw [SL_X4_writeDigits_5] at hs
      refine lv_iload hx hb dX4_writeDigits_5 (lv_at hl 1 rfl) ?_
      refine lv_bipush (v := 9) hx hb dX4_writeDigits_7 (by decide) ?_
      refine lv_icmp_ge (tgt := 34) hx hb dX4_writeDigits_9 (by decide) (fun c18 => ?_) (fun c18 => ?_)
      · have hs := hs.1 c18
        have he19 : u1 = (x3v, x5v) := by rw [hq17, L_X4_writeDigits_5]; simp only [if_pos c18, ↓reduceIte]
        exact hex3 _ _ _ (by first | exact hP | (rw [he19]; exact hP)) hS (by first | exact lv_sub hl [0, 1, 2, 3] rfl | (rw [he19]; exact lv_sub hl [0, 1, 2, 3] rfl))
      · have hs := hs.2 c18
        refine lv_lload_n hx hb dX4_writeDigits_12 rfl (lv_at hl 3 rfl) ?_
        refine lv_ldc2 hx hb hown (hts _ mK_RX4_37) dX4_writeDigits_13 ?_
        refine lv_ldiv hx hb dX4_writeDigits_16 (by decide) ?_
        refine lv_lload_n hx hb dX4_writeDigits_17 rfl (lv_at hl 0 rfl) ?_
        refine W.lcmp hx hb dX4_writeDigits_18 ?_
        refine lv_if_lt (tgt := 34) hx hb dX4_writeDigits_19 (by decide) (fun c20 => ?_) (fun c20 => ?_)
        · have c20 : (a0 / (10 : Int64)) < x3v := lc_lt.mp c20
          have hs := hs.1 c20
          have he21 : u1 = (x3v, x5v) := by rw [hq17, L_X4_writeDigits_5]; simp only [if_neg c18, if_pos c20, ↓reduceIte]
          exact hex3 _ _ _ (by first | exact hP | (rw [he21]; exact hP)) hS (by first | exact lv_sub hl [0, 1, 2, 3] rfl | (rw [he21]; exact lv_sub hl [0, 1, 2, 3] rfl))
        · have c20 : ¬ (a0 / (10 : Int64)) < x3v := fun z => c20 (lc_lt.mpr z)
          have hs := hs.2 c20
          refine lv_lload_n hx hb dX4_writeDigits_22 rfl (lv_at hl 0 rfl) ?_
          refine lv_ldc2 hx hb hown (hts _ mK_RX4_37) dX4_writeDigits_23 ?_
          refine lv_lmul hx hb dX4_writeDigits_26 ?_
          refine lv_lstore_n (lv' := [(3, .long (x3v * (10 : Int64))), (5, .int x5v), (0, .ref (ad 18)), (1, .long a0)]) hx hb dX4_writeDigits_27 rfl hl (by decide) rfl (fun ls hl => ?_)
          refine lv_iinc (v := (x5v + 1)) (lv' := [(5, .int (x5v + 1)), (3, .long (x3v * (10 : Int64))), (0, .ref (ad 18)), (1, .long a0)]) hx hb dX4_writeDigits_28 hl (k := 1) rfl rfl (by decide) rfl (fun ls hl => ?_)
          refine lv_goto (tgt := 5) hx hb dX4_writeDigits_31 (by decide) ?_
          exact ih (x3v * (10 : Int64)) (x5v + 1) _ _ _ hs (by rw [hq17, L_X4_writeDigits_5]; simp only [if_neg c18, if_neg c20, ↓reduceIte]) hP hS (lv_sub hl [1, 0, 2, 3] rfl)
  exact hlp16 10 (1 : Int64) (0 : Int32) _ _ _ h2 hu1 hP hS (lv_sub hl [1, 0, 2, 3] rfl)
theorem q_X4_writeDigits {p : Program} {l : Launch} {e : Env} {R : Room} {s : State} {m : MethodId} {args : Array Value} {below : List Frame} {meth : Method} {c : Code} {H : Heap} {locs : List Loc} {cells slots : Nat} {Q : State → Prop} {pc : Nat} {ls : Array Slot} {rest : List Value} {cc : ByteArray} {nL idx : Nat} {own : String} {A0 : Nat → Prop} {dC : Nat → ClassId} {dI : Nat → Nat → Nat} {cI cJ : ClassId} {ad : Nat → Nat} {Bc : Nat → Int64} {Bl : Nat → Int32} {Pk : Nat → Int32} {Pr : Nat → Int32} {Pl : Nat → Int32} {Pc : Nat → Int64} {Pm : Int32} {Gf : Nat → Int32} {Gt : Nat → Int32} {Gx : Nat → Int32} {Gd : Int32} {Gm : Int32} {Ek : Nat → Int32} {Er : Nat → Int32} {Ea : Nat → Int32} {Ex : Nat → Int32} {Em : Int32} {Eb : Int32} {Et : Int32} {Ss : Nat → Int32} {Sm : Int32} {Wg : Nat → Int64} {Wr : Nat → Int64} {Md : Nat → Int64} (hx : p.tables.exec = Jvm.exec) (hb : c.code = cc) (hml : c.maxLocals = nL) (hown : s.vm.findClass own = some m.cls) (hts : ∀ w ∈ bigW, w.before args s = true) (hlk : Cond.methodLink own idx yX4_writeDigits ∈ bigW) (hR : 2 ≤ R.frames ∧ 46 ≤ R.locals) (hf : cells + 0 ≤ R.cells ∧ slots + 0 ≤ R.slots) (hz : ls.size = nL) (hw : (rest.map fun v => v.category).sum ≤ 8) (hS : va_S A0 s.heap H locs) (hd : decode cc pc = .ok (.invokevirtual idx, 3)) (hA : ∀ q, fA 23 ad H.size q → A0 q) (hi : fI 23 ad) (hK : va_K (dC, dI) vwCl [(cI, .int), (cJ, .long)] s) (hP : va_P (dC, dI) vwCl (wC ad cI cJ Bc Bl Pk Pr Pl Pc Pm Gf Gt Gx Gd Gm Ek Er Ea Ex Em Eb Et Ss Sm Wg Wr Md) H) (a0 : Int64) (hs : S_X4_writeDigits a0 Ss Sm)  (u : (Nat → Int32) × Int32) (hu : u = f_X4_writeDigits a0 Ss Sm) (k : ∀ (H1 : Heap) (locs1 : List Loc), va_P (dC, dI) vwCl (wC ad cI cJ Bc Bl Pk Pr Pl Pc Pm Gf Gt Gx Gd Gm Ek Er Ea Ex Em Eb Et u.1 u.2 Wg Wr Md) H1 → va_S A0 s.heap H1 locs1 → W p l e R s m args below meth c H1 locs1 (cells + 0) (slots + 0) Q (F0 m (pc + 3) ls (rest))) : W p l e R s m args below meth c H locs cells slots Q (F0 m pc ls (.long a0 :: .ref (ad 18) :: rest)) := by
  subst hu
  exact va_callv (va_runV (As := [.long a0]) (rest := rest) ⟨hx, hb, hml, hown, hts⟩ (c_X4_writeDigits l dC dI cI cJ ad hi H.size Bc Bl Pk Pr Pl Pc Pm Gf Gt Gx Gd Gm Ek Er Ea Ex Em Eb Et Ss Sm Wg Wr Md a0 hs) (kV 1 hts hlk mI_X4_writeDigits mN_RX4 mY_X4_writeDigits mV_X4_writeDigits rfl rfl (by decide +kernel) hR) ⟨fun a U g mk q => ⟨q.1, q.2.1, q.2.2.1, va_K.moved (u := U) (U := U.calling g mk a) (Vm.Alike.refl U.vm) q.2.2.2⟩, va_recv hK hP (ci := 6) (q0 := 18) rfl rfl, fun U hU hW => ⟨rfl, by rw [hU], by rw [hU]; exact hP, va_K.moved hW.alike hK⟩⟩ rfl rfl hz rfl (lv_room hw) hd hf) hS (fun q _ h => hA q h) (fun q h => hA q h) (fun u t H1 locs1 ht hvm hw9 hB hz1 hk1 hS1 => by
    skip
    exact k H1 locs1 (by rw [← ht]; exact hB) hS1)

def f_X4_writeNumber (a0 : Int64) (Ss : Nat → Int32) (Sm : Int32) : (Nat → Int32) × Int32 := (if (0 : Int64) ≤ a0 then (let u4 := f_X4_writeDigits a0 Ss Sm; (u4.1, u4.2)) else (let u6 := f_X4_write (45 : Int32) Ss Sm; (let u9 := f_X4_writeDigits (-a0) u6.1 u6.2; (u9.1, u9.2))))
def S_X4_writeNumber (a0 : Int64) (Ss : Nat → Int32) (Sm : Int32) : Prop := ((0 : Int64) ≤ a0 → ((S_X4_writeDigits a0 Ss Sm) ∧ (∀ u4, u4 = f_X4_writeDigits a0 Ss Sm → (True)))) ∧ (¬ (0 : Int64) ≤ a0 → ((S_X4_write (45 : Int32) Ss Sm) ∧ (∀ u6, u6 = f_X4_write (45 : Int32) Ss Sm → ((S_X4_writeDigits (-a0) u6.1 u6.2) ∧ (∀ u9, u9 = f_X4_writeDigits (-a0) u6.1 u6.2 → (True))))))
set_option maxHeartbeats 4000000 in
set_option maxRecDepth 100000 in
theorem c_X4_writeNumber (l : Launch) (dC : Nat → ClassId) (dI : Nat → Nat → Nat) (cI cJ : ClassId) (ad : Nat → Nat) (hi : fI 23 ad) (sz : Nat) (Bc : Nat → Int64) (Bl : Nat → Int32) (Pk : Nat → Int32) (Pr : Nat → Int32) (Pl : Nat → Int32) (Pc : Nat → Int64) (Pm : Int32) (Gf : Nat → Int32) (Gt : Nat → Int32) (Gx : Nat → Int32) (Gd : Int32) (Gm : Int32) (Ek : Nat → Int32) (Er : Nat → Int32) (Ea : Nat → Int32) (Ex : Nat → Int32) (Em : Int32) (Eb : Int32) (Et : Int32) (Ss : Nat → Int32) (Sm : Int32) (Wg : Nat → Int64) (Wr : Nat → Int64) (Md : Nat → Int64) (a0 : Int64) (hs : S_X4_writeNumber a0 Ss Sm) : Met l yX4_writeNumber (mW yX4_writeNumber cX4_writeNumber 3 none) { frames := 2, cells := 0, slots := 0, locals := 46 } (va_Pc [.ref (ad 18), .long a0] (fun U => U.heap.size = sz ∧ va_P (dC, dI) vwCl (wC ad cI cJ Bc Bl Pk Pr Pl Pc Pm Gf Gt Gx Gd Gm Ek Er Ea Ex Em Eb Et Ss Sm Wg Wr Md) U.heap ∧ va_K (dC, dI) vwCl [(cI, .int), (cJ, .long)] U)) (va_Qv (fun (_ : Unit) => True) (fun _ t => va_P (dC, dI) vwCl (wC ad cI cJ Bc Bl Pk Pr Pl Pc Pm Gf Gt Gx Gd Gm Ek Er Ea Ex Em Eb Et ((f_X4_writeNumber a0 Ss Sm).1) ((f_X4_writeNumber a0 Ss Sm).2) Wg Wr Md) t.heap) (fA 23 ad sz)) 0 0 (fA 23 ad sz) := by
  refine Met.ofW (cc := cX4_writeNumber) (maxL := 3) (ret := none) (by decide) rfl ?_
  intro p e s m args below meth c s₁ B hml hv
  obtain ⟨rfl, hsz, hP, hK⟩ := hv
  have hx := B.exec
  have hb := B.bytes
  have hr := B.returns
  have hts := mW_hts (atoms_spec (ws := (mW yX4_writeNumber cX4_writeNumber 3 none)) B.pre)
  have hown : s.vm.findClass RX4 = some m.cls := findClass_of_methodNamed B.named
  have hlocks := B.notSynchronized
  subst hsz
  have hA : ∀ (n : Nat) (q : Nat), s.heap.size ≤ n → n ≤ q → fA 23 ad s.heap.size q := fun n q h1 h2 => Or.inr (Nat.le_trans h1 h2)
  have hS : va_S (fA 23 ad s.heap.size) s.heap s.heap [] := va_S.rf
  have hA : ∀ q, s.heap.size ≤ q → (fA 23 ad s.heap.size) q := fun q h => Or.inr h
  unfold S_X4_writeNumber at hs
  have hl := lv_entry ([.ref (ad 18), .long a0]) (n := 3) (Nat.le_of_ble_eq_true rfl)
  rw [lg_entry_eq]
  generalize (lg_sl ([.ref (ad 18), .long a0]) ++ List.replicate (3 - (lg_sl ([.ref (ad 18), .long a0])).length) Slot.unset).toArray = ls at hl ⊢
  have hl : lv_has ls 3 [(0, .ref (ad 18)), (1, .long a0)] := hl
  refine W_gen (fun Q9 hQ9 => ?_)
  refine lv_lload_n hx hb dX4_writeNumber_0 rfl (lv_at hl 1 rfl) ?_
  refine lv_lconst (v := 0) hx hb dX4_writeNumber_1 (by decide) ?_
  refine W.lcmp hx hb dX4_writeNumber_2 ?_
  refine lv_if_ge (tgt := 12) hx hb dX4_writeNumber_3 (by decide) (fun c1 => ?_) (fun c1 => ?_)
  · have c1 : (0 : Int64) ≤ a0 := lc_ge.mp c1
    have hs := hs.1 c1
    refine lv_aload_n hx hb dX4_writeNumber_12 rfl (lv_at hl 0 rfl) ?_
    refine lv_lload_n hx hb dX4_writeNumber_13 rfl (lv_at hl 1 rfl) ?_
    refine lv_lconst (v := 0) hx hb dX4_writeNumber_14 (by decide) ?_
    refine W.lcmp hx hb dX4_writeNumber_15 ?_
    refine lv_if_ge (tgt := 24) hx hb dX4_writeNumber_16 (by decide) (fun c2 => ?_) (fun c2 => ?_)
    · have c2 : (0 : Int64) ≤ a0 := lc_ge.mp c2
      refine lv_lload_n hx hb dX4_writeNumber_24 rfl (lv_at hl 1 rfl) ?_
      obtain ⟨h3, hs⟩ := hs
      obtain ⟨u4, hu4⟩ : ∃ z, z = f_X4_writeDigits a0 Ss Sm := ⟨_, rfl⟩
      have hs := hs u4 hu4
      refine q_X4_writeDigits hx hb hml hown hts mM_RX4_33 ⟨Nat.le_of_ble_eq_true rfl, Nat.le_of_ble_eq_true rfl⟩ ⟨Nat.le_of_ble_eq_true rfl, Nat.le_of_ble_eq_true rfl⟩ hl.1 (Nat.le_of_ble_eq_true rfl) hS dX4_writeNumber_25 (fun _ h9 => fA_mono hS.1 h9) hi hK hP a0 h3 u4 hu4 (fun H locs hP hS => ?_)
      rw [hQ9]
      have hf : f_X4_writeNumber a0 Ss Sm = (u4.1, u4.2) := by simp only [f_X4_writeNumber, if_pos c1, ← hu4]
      exact W.vret hx hb hr (fun t ht hW => ⟨⟨(), rfl, True.intro, by rw [hf]; show va_P (dC, dI) vwCl _ t.heap; rw [ht]; exact hP⟩, hS.F ht⟩) hS.2.2 dX4_writeNumber_28
    · have c2 : ¬ (0 : Int64) ≤ a0 := fun z => c2 (lc_ge.mpr z)
      exact absurd c1 c2
  · have c1 : ¬ (0 : Int64) ≤ a0 := fun z => c1 (lc_ge.mpr z)
    have hs := hs.2 c1
    refine lv_aload_n hx hb dX4_writeNumber_6 rfl (lv_at hl 0 rfl) ?_
    refine lv_bipush (v := 45) hx hb dX4_writeNumber_7 (by decide) ?_
    obtain ⟨h5, hs⟩ := hs
    obtain ⟨u6, hu6⟩ : ∃ z, z = f_X4_write (45 : Int32) Ss Sm := ⟨_, rfl⟩
    have hs := hs u6 hu6
    refine q_X4_write hx hb hml hown hts mM_RX4_29 ⟨Nat.le_of_ble_eq_true rfl, Nat.le_of_ble_eq_true rfl⟩ ⟨Nat.le_of_ble_eq_true rfl, Nat.le_of_ble_eq_true rfl⟩ hl.1 (Nat.le_of_ble_eq_true rfl) hS dX4_writeNumber_9 (fun _ h9 => fA_mono hS.1 h9) hi hK hP (45 : Int32) h5 u6 hu6 (fun H locs hP hS => ?_)
    refine lv_aload_n hx hb dX4_writeNumber_12 rfl (lv_at hl 0 rfl) ?_
    refine lv_lload_n hx hb dX4_writeNumber_13 rfl (lv_at hl 1 rfl) ?_
    refine lv_lconst (v := 0) hx hb dX4_writeNumber_14 (by decide) ?_
    refine W.lcmp hx hb dX4_writeNumber_15 ?_
    refine lv_if_ge (tgt := 24) hx hb dX4_writeNumber_16 (by decide) (fun c7 => ?_) (fun c7 => ?_)
    · have c7 : (0 : Int64) ≤ a0 := lc_ge.mp c7
      exact absurd c7 c1
    · have c7 : ¬ (0 : Int64) ≤ a0 := fun z => c7 (lc_ge.mpr z)
      refine lv_lload_n hx hb dX4_writeNumber_19 rfl (lv_at hl 1 rfl) ?_
      refine lv_lneg hx hb dX4_writeNumber_20 ?_
      refine lv_goto (tgt := 25) hx hb dX4_writeNumber_21 (by decide) ?_
      obtain ⟨h8, hs⟩ := hs
      obtain ⟨u9, hu9⟩ : ∃ z, z = f_X4_writeDigits (-a0) u6.1 u6.2 := ⟨_, rfl⟩
      have hs := hs u9 hu9
      refine q_X4_writeDigits hx hb hml hown hts mM_RX4_33 ⟨Nat.le_of_ble_eq_true rfl, Nat.le_of_ble_eq_true rfl⟩ ⟨Nat.le_of_ble_eq_true rfl, Nat.le_of_ble_eq_true rfl⟩ hl.1 (Nat.le_of_ble_eq_true rfl) hS dX4_writeNumber_25 (fun _ h9 => fA_mono hS.1 h9) hi hK hP (-a0) h8 u9 hu9 (fun H locs hP hS => ?_)
      rw [hQ9]
      have hf : f_X4_writeNumber a0 Ss Sm = (u9.1, u9.2) := by simp only [f_X4_writeNumber, if_neg c1, ← hu6, ← hu9]
      exact W.vret hx hb hr (fun t ht hW => ⟨⟨(), rfl, True.intro, by rw [hf]; show va_P (dC, dI) vwCl _ t.heap; rw [ht]; exact hP⟩, hS.F ht⟩) hS.2.2 dX4_writeNumber_28
theorem q_X4_writeNumber {p : Program} {l : Launch} {e : Env} {R : Room} {s : State} {m : MethodId} {args : Array Value} {below : List Frame} {meth : Method} {c : Code} {H : Heap} {locs : List Loc} {cells slots : Nat} {Q : State → Prop} {pc : Nat} {ls : Array Slot} {rest : List Value} {cc : ByteArray} {nL idx : Nat} {own : String} {A0 : Nat → Prop} {dC : Nat → ClassId} {dI : Nat → Nat → Nat} {cI cJ : ClassId} {ad : Nat → Nat} {Bc : Nat → Int64} {Bl : Nat → Int32} {Pk : Nat → Int32} {Pr : Nat → Int32} {Pl : Nat → Int32} {Pc : Nat → Int64} {Pm : Int32} {Gf : Nat → Int32} {Gt : Nat → Int32} {Gx : Nat → Int32} {Gd : Int32} {Gm : Int32} {Ek : Nat → Int32} {Er : Nat → Int32} {Ea : Nat → Int32} {Ex : Nat → Int32} {Em : Int32} {Eb : Int32} {Et : Int32} {Ss : Nat → Int32} {Sm : Int32} {Wg : Nat → Int64} {Wr : Nat → Int64} {Md : Nat → Int64} (hx : p.tables.exec = Jvm.exec) (hb : c.code = cc) (hml : c.maxLocals = nL) (hown : s.vm.findClass own = some m.cls) (hts : ∀ w ∈ bigW, w.before args s = true) (hlk : Cond.methodLink own idx yX4_writeNumber ∈ bigW) (hR : 3 ≤ R.frames ∧ 68 ≤ R.locals) (hf : cells + 0 ≤ R.cells ∧ slots + 0 ≤ R.slots) (hz : ls.size = nL) (hw : (rest.map fun v => v.category).sum ≤ 8) (hS : va_S A0 s.heap H locs) (hd : decode cc pc = .ok (.invokevirtual idx, 3)) (hA : ∀ q, fA 23 ad H.size q → A0 q) (hi : fI 23 ad) (hK : va_K (dC, dI) vwCl [(cI, .int), (cJ, .long)] s) (hP : va_P (dC, dI) vwCl (wC ad cI cJ Bc Bl Pk Pr Pl Pc Pm Gf Gt Gx Gd Gm Ek Er Ea Ex Em Eb Et Ss Sm Wg Wr Md) H) (a0 : Int64) (hs : S_X4_writeNumber a0 Ss Sm)  (u : (Nat → Int32) × Int32) (hu : u = f_X4_writeNumber a0 Ss Sm) (k : ∀ (H1 : Heap) (locs1 : List Loc), va_P (dC, dI) vwCl (wC ad cI cJ Bc Bl Pk Pr Pl Pc Pm Gf Gt Gx Gd Gm Ek Er Ea Ex Em Eb Et u.1 u.2 Wg Wr Md) H1 → va_S A0 s.heap H1 locs1 → W p l e R s m args below meth c H1 locs1 (cells + 0) (slots + 0) Q (F0 m (pc + 3) ls (rest))) : W p l e R s m args below meth c H locs cells slots Q (F0 m pc ls (.long a0 :: .ref (ad 18) :: rest)) := by
  subst hu
  exact va_callv (va_runV (As := [.long a0]) (rest := rest) ⟨hx, hb, hml, hown, hts⟩ (c_X4_writeNumber l dC dI cI cJ ad hi H.size Bc Bl Pk Pr Pl Pc Pm Gf Gt Gx Gd Gm Ek Er Ea Ex Em Eb Et Ss Sm Wg Wr Md a0 hs) (kV 1 hts hlk mI_X4_writeNumber mN_RX4 mY_X4_writeNumber mV_X4_writeNumber rfl rfl (by decide +kernel) hR) ⟨fun a U g mk q => ⟨q.1, q.2.1, q.2.2.1, va_K.moved (u := U) (U := U.calling g mk a) (Vm.Alike.refl U.vm) q.2.2.2⟩, va_recv hK hP (ci := 6) (q0 := 18) rfl rfl, fun U hU hW => ⟨rfl, by rw [hU], by rw [hU]; exact hP, va_K.moved hW.alike hK⟩⟩ rfl rfl hz rfl (lv_room hw) hd hf) hS (fun q _ h => hA q h) (fun q h => hA q h) (fun u t H1 locs1 ht hvm hw9 hB hz1 hk1 hS1 => by
    skip
    exact k H1 locs1 (by rw [← ht]; exact hB) hS1)

def L_X4_writeFraction_18 : Nat → Int64 → Int64 → Int32 → (Nat → Int32) → Int32 → Int64 × Int64 × Int32 × (Nat → Int32) × Int32
  | 0, x3, x5, x7, Ss, Sm => (x3, x5, x7, Ss, Sm)
  | n + 1, x3, x5, x7, Ss, Sm => (if (9 : Int32) ≤ x7 then (x3, x5, x7, Ss, Sm) else (if x7 = 0 then (if x5 ≤ (65536 : Int64) then (let u5 := f_X4_write ((48 : Int32) + (x3 / (65536 : Int64)).toInt32) Ss Sm; L_X4_writeFraction_18 n ((10 : Int64) * (x3 - x3 / (65536 : Int64) * (65536 : Int64))) (x5 * (10 : Int64)) (x7 + 1) u5.1 u5.2) else (let u7 := f_X4_write ((48 : Int32) + ((x3 - (17232 : Int64)) / (65536 : Int64)).toInt32) Ss Sm; L_X4_writeFraction_18 n ((10 : Int64) * ((x3 - (17232 : Int64)) - (x3 - (17232 : Int64)) / (65536 : Int64) * (65536 : Int64))) (x5 * (10 : Int64)) (x7 + 1) u7.1 u7.2)) else (if x3 ≤ x5 then (x3, x5, x7, Ss, Sm) else (if x5 ≤ (65536 : Int64) then (let u11 := f_X4_write ((48 : Int32) + (x3 / (65536 : Int64)).toInt32) Ss Sm; L_X4_writeFraction_18 n ((10 : Int64) * (x3 - x3 / (65536 : Int64) * (65536 : Int64))) (x5 * (10 : Int64)) (x7 + 1) u11.1 u11.2) else (let u13 := f_X4_write ((48 : Int32) + ((x3 - (17232 : Int64)) / (65536 : Int64)).toInt32) Ss Sm; L_X4_writeFraction_18 n ((10 : Int64) * ((x3 - (17232 : Int64)) - (x3 - (17232 : Int64)) / (65536 : Int64) * (65536 : Int64))) (x5 * (10 : Int64)) (x7 + 1) u13.1 u13.2)))))
def SL_X4_writeFraction_18 : Nat → Int64 → Int64 → Int32 → (Nat → Int32) → Int32 → Prop
  | 0, _, _, _, _, _ => False
  | n + 1, x3, x5, x7, Ss, Sm => ((9 : Int32) ≤ x7 → (True)) ∧ (¬ (9 : Int32) ≤ x7 → ((x7 = 0 → ((x5 ≤ (65536 : Int64) → ((S_X4_write ((48 : Int32) + (x3 / (65536 : Int64)).toInt32) Ss Sm) ∧ (∀ u5, u5 = f_X4_write ((48 : Int32) + (x3 / (65536 : Int64)).toInt32) Ss Sm → (SL_X4_writeFraction_18 n ((10 : Int64) * (x3 - x3 / (65536 : Int64) * (65536 : Int64))) (x5 * (10 : Int64)) (x7 + 1) u5.1 u5.2)))) ∧ (¬ x5 ≤ (65536 : Int64) → ((S_X4_write ((48 : Int32) + ((x3 - (17232 : Int64)) / (65536 : Int64)).toInt32) Ss Sm) ∧ (∀ u7, u7 = f_X4_write ((48 : Int32) + ((x3 - (17232 : Int64)) / (65536 : Int64)).toInt32) Ss Sm → (SL_X4_writeFraction_18 n ((10 : Int64) * ((x3 - (17232 : Int64)) - (x3 - (17232 : Int64)) / (65536 : Int64) * (65536 : Int64))) (x5 * (10 : Int64)) (x7 + 1) u7.1 u7.2)))))) ∧ (¬ x7 = 0 → ((x3 ≤ x5 → (True)) ∧ (¬ x3 ≤ x5 → ((x5 ≤ (65536 : Int64) → ((S_X4_write ((48 : Int32) + (x3 / (65536 : Int64)).toInt32) Ss Sm) ∧ (∀ u11, u11 = f_X4_write ((48 : Int32) + (x3 / (65536 : Int64)).toInt32) Ss Sm → (SL_X4_writeFraction_18 n ((10 : Int64) * (x3 - x3 / (65536 : Int64) * (65536 : Int64))) (x5 * (10 : Int64)) (x7 + 1) u11.1 u11.2)))) ∧ (¬ x5 ≤ (65536 : Int64) → ((S_X4_write ((48 : Int32) + ((x3 - (17232 : Int64)) / (65536 : Int64)).toInt32) Ss Sm) ∧ (∀ u13, u13 = f_X4_write ((48 : Int32) + ((x3 - (17232 : Int64)) / (65536 : Int64)).toInt32) Ss Sm → (SL_X4_writeFraction_18 n ((10 : Int64) * ((x3 - (17232 : Int64)) - (x3 - (17232 : Int64)) / (65536 : Int64) * (65536 : Int64))) (x5 * (10 : Int64)) (x7 + 1) u13.1 u13.2))))))))))
def f_X4_writeFraction (a0 : Int64) (Ss : Nat → Int32) (Sm : Int32) : (Nat → Int32) × Int32 := (let u1 := L_X4_writeFraction_18 10 (((10 : Int64) * a0) + (5 : Int64)) (10 : Int64) (0 : Int32) Ss Sm; (u1.2.2.2.1, u1.2.2.2.2))
def S_X4_writeFraction (a0 : Int64) (Ss : Nat → Int32) (Sm : Int32) : Prop := (SL_X4_writeFraction_18 10 (((10 : Int64) * a0) + (5 : Int64)) (10 : Int64) (0 : Int32) Ss Sm) ∧ (∀ u1, u1 = L_X4_writeFraction_18 10 (((10 : Int64) * a0) + (5 : Int64)) (10 : Int64) (0 : Int32) Ss Sm → (True))
set_option maxHeartbeats 4000000 in
set_option maxRecDepth 100000 in
theorem c_X4_writeFraction (l : Launch) (dC : Nat → ClassId) (dI : Nat → Nat → Nat) (cI cJ : ClassId) (ad : Nat → Nat) (hi : fI 23 ad) (sz : Nat) (Bc : Nat → Int64) (Bl : Nat → Int32) (Pk : Nat → Int32) (Pr : Nat → Int32) (Pl : Nat → Int32) (Pc : Nat → Int64) (Pm : Int32) (Gf : Nat → Int32) (Gt : Nat → Int32) (Gx : Nat → Int32) (Gd : Int32) (Gm : Int32) (Ek : Nat → Int32) (Er : Nat → Int32) (Ea : Nat → Int32) (Ex : Nat → Int32) (Em : Int32) (Eb : Int32) (Et : Int32) (Ss : Nat → Int32) (Sm : Int32) (Wg : Nat → Int64) (Wr : Nat → Int64) (Md : Nat → Int64) (a0 : Int64) (hs : S_X4_writeFraction a0 Ss Sm) : Met l yX4_writeFraction (mW yX4_writeFraction cX4_writeFraction 8 none) { frames := 1, cells := 0, slots := 0, locals := 21 } (va_Pc [.ref (ad 18), .long a0] (fun U => U.heap.size = sz ∧ va_P (dC, dI) vwCl (wC ad cI cJ Bc Bl Pk Pr Pl Pc Pm Gf Gt Gx Gd Gm Ek Er Ea Ex Em Eb Et Ss Sm Wg Wr Md) U.heap ∧ va_K (dC, dI) vwCl [(cI, .int), (cJ, .long)] U)) (va_Qv (fun (_ : Unit) => True) (fun _ t => va_P (dC, dI) vwCl (wC ad cI cJ Bc Bl Pk Pr Pl Pc Pm Gf Gt Gx Gd Gm Ek Er Ea Ex Em Eb Et ((f_X4_writeFraction a0 Ss Sm).1) ((f_X4_writeFraction a0 Ss Sm).2) Wg Wr Md) t.heap) (fA 23 ad sz)) 0 0 (fA 23 ad sz) := by
  refine Met.ofW (cc := cX4_writeFraction) (maxL := 8) (ret := none) (by decide) rfl ?_
  intro p e s m args below meth c s₁ B hml hv
  obtain ⟨rfl, hsz, hP, hK⟩ := hv
  have hx := B.exec
  have hb := B.bytes
  have hr := B.returns
  have hts := mW_hts (atoms_spec (ws := (mW yX4_writeFraction cX4_writeFraction 8 none)) B.pre)
  have hown : s.vm.findClass RX4 = some m.cls := findClass_of_methodNamed B.named
  have hlocks := B.notSynchronized
  subst hsz
  have hA : ∀ (n : Nat) (q : Nat), s.heap.size ≤ n → n ≤ q → fA 23 ad s.heap.size q := fun n q h1 h2 => Or.inr (Nat.le_trans h1 h2)
  have hS : va_S (fA 23 ad s.heap.size) s.heap s.heap [] := va_S.rf
  have hA : ∀ q, s.heap.size ≤ q → (fA 23 ad s.heap.size) q := fun q h => Or.inr h
  unfold S_X4_writeFraction at hs
  have hl := lv_entry ([.ref (ad 18), .long a0]) (n := 8) (Nat.le_of_ble_eq_true rfl)
  rw [lg_entry_eq]
  generalize (lg_sl ([.ref (ad 18), .long a0]) ++ List.replicate (8 - (lg_sl ([.ref (ad 18), .long a0])).length) Slot.unset).toArray = ls at hl ⊢
  have hl : lv_has ls 8 [(0, .ref (ad 18)), (1, .long a0)] := hl
  refine W_gen (fun Q9 hQ9 => ?_)
  refine lv_ldc2 hx hb hown (hts _ mK_RX4_37) dX4_writeFraction_0 ?_
  refine lv_lload_n hx hb dX4_writeFraction_3 rfl (lv_at hl 1 rfl) ?_
  refine lv_lmul hx hb dX4_writeFraction_4 ?_
  refine lv_ldc2 hx hb hown (hts _ mK_RX4_44) dX4_writeFraction_5 ?_
  refine lv_ladd hx hb dX4_writeFraction_8 ?_
  refine lv_lstore_n (lv' := [(3, .long (((10 : Int64) * a0) + (5 : Int64))), (0, .ref (ad 18)), (1, .long a0)]) hx hb dX4_writeFraction_9 rfl hl (by decide) rfl (fun ls hl => ?_)
  refine lv_ldc2 hx hb hown (hts _ mK_RX4_37) dX4_writeFraction_10 ?_
  refine lv_lstore (lv' := [(5, .long (10 : Int64)), (3, .long (((10 : Int64) * a0) + (5 : Int64))), (0, .ref (ad 18)), (1, .long a0)]) hx hb dX4_writeFraction_13 hl (by decide) rfl (fun ls hl => ?_)
  refine lv_iconst (v := 0) hx hb dX4_writeFraction_15 (by decide) ?_
  refine lv_istore (lv' := [(7, .int (0 : Int32)), (5, .long (10 : Int64)), (3, .long (((10 : Int64) * a0) + (5 : Int64))), (0, .ref (ad 18)), (1, .long a0)]) hx hb dX4_writeFraction_16 hl (by decide) rfl (fun ls hl => ?_)
  obtain ⟨h2, hs⟩ := hs
  obtain ⟨u1, hu1⟩ : ∃ z, z = L_X4_writeFraction_18 10 (((10 : Int64) * a0) + (5 : Int64)) (10 : Int64) (0 : Int32) Ss Sm := ⟨_, rfl⟩
  have hs := hs u1 hu1
  have hex3 : ∀ (H : Heap) (locs : List Loc) (ls : Array Slot), va_P (dC, dI) vwCl (wC ad cI cJ Bc Bl Pk Pr Pl Pc Pm Gf Gt Gx Gd Gm Ek Er Ea Ex Em Eb Et u1.2.2.2.1 u1.2.2.2.2 Wg Wr Md) H → va_S (fA 23 ad s.heap.size) s.heap H locs → lv_has ls 8 [(3, .long u1.1), (5, .long u1.2.1), (7, .int u1.2.2.1), (0, .ref (ad 18)), (1, .long a0)] → W p l e (headSpec (mW yX4_writeFraction cX4_writeFraction 8 none) { frames := 1, cells := 0, slots := 0, locals := 21 }).room s m ([.ref (ad 18), .long a0] : List Value).toArray below meth c H locs 0 0 Q9 (F0 m 89 ls []) := by
    intro H locs ls hP hS hl
    rw [hQ9]
    have hf : f_X4_writeFraction a0 Ss Sm = (u1.2.2.2.1, u1.2.2.2.2) := by simp only [f_X4_writeFraction, ← hu1]
    exact W.vret hx hb hr (fun t ht hW => ⟨⟨(), rfl, True.intro, by rw [hf]; show va_P (dC, dI) vwCl _ t.heap; rw [ht]; exact hP⟩, hS.F ht⟩) hS.2.2 dX4_writeFraction_89
  have hlp4 : ∀ (n : Nat) (x3v : Int64) (x5v : Int64) (x7v : Int32) (Ssv : Nat → Int32) (Smv : Int32) (H : Heap) (locs : List Loc) (ls : Array Slot), SL_X4_writeFraction_18 n x3v x5v x7v Ssv Smv → u1 = L_X4_writeFraction_18 n x3v x5v x7v Ssv Smv → va_P (dC, dI) vwCl (wC ad cI cJ Bc Bl Pk Pr Pl Pc Pm Gf Gt Gx Gd Gm Ek Er Ea Ex Em Eb Et Ssv Smv Wg Wr Md) H → va_S (fA 23 ad s.heap.size) s.heap H locs → lv_has ls 8 [(3, .long x3v), (5, .long x5v), (7, .int x7v), (0, .ref (ad 18)), (1, .long a0)] → W p l e (headSpec (mW yX4_writeFraction cX4_writeFraction 8 none) { frames := 1, cells := 0, slots := 0, locals := 21 }).room s m ([.ref (ad 18), .long a0] : List Value).toArray below meth c H locs 0 0 Q9 (F0 m 18 ls []) := by
    intro n
    induction n with
    | zero => intro x3v x5v x7v Ssv Smv H locs ls hs; rw [SL_X4_writeFraction_18] at hs; exact hs.elim
    | succ n ih =>
      intro x3v x5v x7v Ssv Smv H locs ls hs hq5 hP hS hl
      rw [SL_X4_writeFraction_18] at hs
      refine lv_iload hx hb dX4_writeFraction_18 (lv_at hl 2 rfl) ?_
      refine lv_bipush (v := 9) hx hb dX4_writeFraction_20 (by decide) ?_
      refine lv_icmp_ge (tgt := 89) hx hb dX4_writeFraction_22 (by decide) (fun c6 => ?_) (fun c6 => ?_)
      · have hs := hs.1 c6
        have he7 : u1 = (x3v, x5v, x7v, Ssv, Smv) := by rw [hq5, L_X4_writeFraction_18]; simp only [if_pos c6, ↓reduceIte]
        exact hex3 _ _ _ (by first | exact hP | (rw [he7]; exact hP)) hS (by first | exact lv_sub hl [0, 1, 2, 3, 4] rfl | (rw [he7]; exact lv_sub hl [0, 1, 2, 3, 4] rfl))
      · have hs := hs.2 c6
        refine lv_iload hx hb dX4_writeFraction_25 (lv_at hl 2 rfl) ?_
        refine lv_if_eq (tgt := 37) hx hb dX4_writeFraction_27 (by decide) (fun c8 => ?_) (fun c8 => ?_)
        · have hs := hs.1 c8
          refine lv_lload hx hb dX4_writeFraction_37 (lv_at hl 1 rfl) ?_
          refine lv_ldc2 hx hb hown (hts _ mK_RX4_39) dX4_writeFraction_39 ?_
          refine W.lcmp hx hb dX4_writeFraction_42 ?_
          refine lv_if_le (tgt := 52) hx hb dX4_writeFraction_43 (by decide) (fun c9 => ?_) (fun c9 => ?_)
          · have c9 : x5v ≤ (65536 : Int64) := lc_le.mp c9
            have hs := hs.1 c9
            refine lv_aload_n hx hb dX4_writeFraction_52 rfl (lv_at hl 3 rfl) ?_
            refine lv_bipush (v := 48) hx hb dX4_writeFraction_53 (by decide) ?_
            refine lv_lload_n hx hb dX4_writeFraction_55 rfl (lv_at hl 0 rfl) ?_
            refine lv_ldc2 hx hb hown (hts _ mK_RX4_39) dX4_writeFraction_56 ?_
            refine lv_ldiv hx hb dX4_writeFraction_59 (by decide) ?_
            refine lv_l2i hx hb dX4_writeFraction_60 rfl ?_
            refine lv_iadd hx hb dX4_writeFraction_61 ?_
            obtain ⟨h10, hs⟩ := hs
            obtain ⟨u11, hu11⟩ : ∃ z, z = f_X4_write ((48 : Int32) + (x3v / (65536 : Int64)).toInt32) Ssv Smv := ⟨_, rfl⟩
            have hs := hs u11 hu11
            refine q_X4_write hx hb hml hown hts mM_RX4_29 ⟨Nat.le_of_ble_eq_true rfl, Nat.le_of_ble_eq_true rfl⟩ ⟨Nat.le_of_ble_eq_true rfl, Nat.le_of_ble_eq_true rfl⟩ hl.1 (Nat.le_of_ble_eq_true rfl) hS dX4_writeFraction_62 (fun _ h9 => fA_mono hS.1 h9) hi hK hP ((48 : Int32) + (x3v / (65536 : Int64)).toInt32) h10 u11 hu11 (fun H locs hP hS => ?_)
            refine lv_ldc2 hx hb hown (hts _ mK_RX4_37) dX4_writeFraction_65 ?_
            refine lv_lload_n hx hb dX4_writeFraction_68 rfl (lv_at hl 0 rfl) ?_
            refine lv_ldc2 hx hb hown (hts _ mK_RX4_39) dX4_writeFraction_69 ?_
            refine lv_lrem hx hb dX4_writeFraction_72 (by decide) ?_
            refine lv_lmul hx hb dX4_writeFraction_73 ?_
            refine lv_lstore_n (lv' := [(3, .long ((10 : Int64) * (x3v - x3v / (65536 : Int64) * (65536 : Int64)))), (5, .long x5v), (7, .int x7v), (0, .ref (ad 18)), (1, .long a0)]) hx hb dX4_writeFraction_74 rfl hl (by decide) rfl (fun ls hl => ?_)
            refine lv_lload hx hb dX4_writeFraction_75 (lv_at hl 1 rfl) ?_
            refine lv_ldc2 hx hb hown (hts _ mK_RX4_37) dX4_writeFraction_77 ?_
            refine lv_lmul hx hb dX4_writeFraction_80 ?_
            refine lv_lstore (lv' := [(5, .long (x5v * (10 : Int64))), (3, .long ((10 : Int64) * (x3v - x3v / (65536 : Int64) * (65536 : Int64)))), (7, .int x7v), (0, .ref (ad 18)), (1, .long a0)]) hx hb dX4_writeFraction_81 hl (by decide) rfl (fun ls hl => ?_)
            refine lv_iinc (v := (x7v + 1)) (lv' := [(7, .int (x7v + 1)), (5, .long (x5v * (10 : Int64))), (3, .long ((10 : Int64) * (x3v - x3v / (65536 : Int64) * (65536 : Int64)))), (0, .ref (ad 18)), (1, .long a0)]) hx hb dX4_writeFraction_83 hl (k := 2) rfl rfl (by decide) rfl (fun ls hl => ?_)
            refine lv_goto (tgt := 18) hx hb dX4_writeFraction_86 (by decide) ?_
            exact ih ((10 : Int64) * (x3v - x3v / (65536 : Int64) * (65536 : Int64))) (x5v * (10 : Int64)) (x7v + 1) u11.1 u11.2 _ _ _ hs (by rw [hq5, L_X4_writeFraction_18]; simp only [if_neg c6, if_pos c8, if_pos c9, ← hu11, ↓reduceIte]) hP hS (lv_sub hl [2, 1, 0, 3, 4] rfl)
          · have c9 : ¬ x5v ≤ (65536 : Int64) := fun z => c9 (lc_le.mpr z)
            have hs := hs.2 c9
            refine lv_lload_n hx hb dX4_writeFraction_46 rfl (lv_at hl 0 rfl) ?_
            refine lv_ldc2 hx hb hown (hts _ mK_RX4_46) dX4_writeFraction_47 ?_
            refine lv_lsub hx hb dX4_writeFraction_50 ?_
            refine lv_lstore_n (lv' := [(3, .long (x3v - (17232 : Int64))), (5, .long x5v), (7, .int x7v), (0, .ref (ad 18)), (1, .long a0)]) hx hb dX4_writeFraction_51 rfl hl (by decide) rfl (fun ls hl => ?_)
            refine lv_aload_n hx hb dX4_writeFraction_52 rfl (lv_at hl 3 rfl) ?_
            refine lv_bipush (v := 48) hx hb dX4_writeFraction_53 (by decide) ?_
            refine lv_lload_n hx hb dX4_writeFraction_55 rfl (lv_at hl 0 rfl) ?_
            refine lv_ldc2 hx hb hown (hts _ mK_RX4_39) dX4_writeFraction_56 ?_
            refine lv_ldiv hx hb dX4_writeFraction_59 (by decide) ?_
            refine lv_l2i hx hb dX4_writeFraction_60 rfl ?_
            refine lv_iadd hx hb dX4_writeFraction_61 ?_
            obtain ⟨h12, hs⟩ := hs
            obtain ⟨u13, hu13⟩ : ∃ z, z = f_X4_write ((48 : Int32) + ((x3v - (17232 : Int64)) / (65536 : Int64)).toInt32) Ssv Smv := ⟨_, rfl⟩
            have hs := hs u13 hu13
            refine q_X4_write hx hb hml hown hts mM_RX4_29 ⟨Nat.le_of_ble_eq_true rfl, Nat.le_of_ble_eq_true rfl⟩ ⟨Nat.le_of_ble_eq_true rfl, Nat.le_of_ble_eq_true rfl⟩ hl.1 (Nat.le_of_ble_eq_true rfl) hS dX4_writeFraction_62 (fun _ h9 => fA_mono hS.1 h9) hi hK hP ((48 : Int32) + ((x3v - (17232 : Int64)) / (65536 : Int64)).toInt32) h12 u13 hu13 (fun H locs hP hS => ?_)
            refine lv_ldc2 hx hb hown (hts _ mK_RX4_37) dX4_writeFraction_65 ?_
            refine lv_lload_n hx hb dX4_writeFraction_68 rfl (lv_at hl 0 rfl) ?_
            refine lv_ldc2 hx hb hown (hts _ mK_RX4_39) dX4_writeFraction_69 ?_
            refine lv_lrem hx hb dX4_writeFraction_72 (by decide) ?_
            refine lv_lmul hx hb dX4_writeFraction_73 ?_
            refine lv_lstore_n (lv' := [(3, .long ((10 : Int64) * ((x3v - (17232 : Int64)) - (x3v - (17232 : Int64)) / (65536 : Int64) * (65536 : Int64)))), (5, .long x5v), (7, .int x7v), (0, .ref (ad 18)), (1, .long a0)]) hx hb dX4_writeFraction_74 rfl hl (by decide) rfl (fun ls hl => ?_)
            refine lv_lload hx hb dX4_writeFraction_75 (lv_at hl 1 rfl) ?_
            refine lv_ldc2 hx hb hown (hts _ mK_RX4_37) dX4_writeFraction_77 ?_
            refine lv_lmul hx hb dX4_writeFraction_80 ?_
            refine lv_lstore (lv' := [(5, .long (x5v * (10 : Int64))), (3, .long ((10 : Int64) * ((x3v - (17232 : Int64)) - (x3v - (17232 : Int64)) / (65536 : Int64) * (65536 : Int64)))), (7, .int x7v), (0, .ref (ad 18)), (1, .long a0)]) hx hb dX4_writeFraction_81 hl (by decide) rfl (fun ls hl => ?_)
            refine lv_iinc (v := (x7v + 1)) (lv' := [(7, .int (x7v + 1)), (5, .long (x5v * (10 : Int64))), (3, .long ((10 : Int64) * ((x3v - (17232 : Int64)) - (x3v - (17232 : Int64)) / (65536 : Int64) * (65536 : Int64)))), (0, .ref (ad 18)), (1, .long a0)]) hx hb dX4_writeFraction_83 hl (k := 2) rfl rfl (by decide) rfl (fun ls hl => ?_)
            refine lv_goto (tgt := 18) hx hb dX4_writeFraction_86 (by decide) ?_
            exact ih ((10 : Int64) * ((x3v - (17232 : Int64)) - (x3v - (17232 : Int64)) / (65536 : Int64) * (65536 : Int64))) (x5v * (10 : Int64)) (x7v + 1) u13.1 u13.2 _ _ _ hs (by rw [hq5, L_X4_writeFraction_18]; simp only [if_neg c6, if_pos c8, if_neg c9, ← hu13, ↓reduceIte]) hP hS (lv_sub hl [2, 1, 0, 3, 4] rfl)
        · have hs := hs.2 c8
          refine lv_lload_n hx hb dX4_writeFraction_30 rfl (lv_at hl 0 rfl) ?_
          refine lv_lload hx hb dX4_writeFraction_31 (lv_at hl 1 rfl) ?_
          refine W.lcmp hx hb dX4_writeFraction_33 ?_
          refine lv_if_le (tgt := 89) hx hb dX4_writeFraction_34 (by decide) (fun c14 => ?_) (fun c14 => ?_)
          · have c14 : x3v ≤ x5v := lc_le.mp c14
            have hs := hs.1 c14
            have he15 : u1 = (x3v, x5v, x7v, Ssv, Smv) := by rw [hq5, L_X4_writeFraction_18]; simp only [if_neg c6, if_neg c8, if_pos c14, ↓reduceIte]
            exact hex3 _ _ _ (by first | exact hP | (rw [he15]; exact hP)) hS (by first | exact lv_sub hl [0, 1, 2, 3, 4] rfl | (rw [he15]; exact lv_sub hl [0, 1, 2, 3, 4] rfl))
          · have c14 : ¬ x3v ≤ x5v := fun z => c14 (lc_le.mpr z)
            have hs := hs.2 c14
            refine lv_lload hx hb dX4_writeFraction_37 (lv_at hl 1 rfl) ?_
            refine lv_ldc2 hx hb hown (hts _ mK_RX4_39) dX4_writeFraction_39 ?_
            refine W.lcmp hx hb dX4_writeFraction_42 ?_
            refine lv_if_le (tgt := 52) hx hb dX4_writeFraction_43 (by decide) (fun c16 => ?_) (fun c16 => ?_)
            · have c16 : x5v ≤ (65536 : Int64) := lc_le.mp c16
              have hs := hs.1 c16
              refine lv_aload_n hx hb dX4_writeFraction_52 rfl (lv_at hl 3 rfl) ?_
              refine lv_bipush (v := 48) hx hb dX4_writeFraction_53 (by decide) ?_
              refine lv_lload_n hx hb dX4_writeFraction_55 rfl (lv_at hl 0 rfl) ?_
              refine lv_ldc2 hx hb hown (hts _ mK_RX4_39) dX4_writeFraction_56 ?_
              refine lv_ldiv hx hb dX4_writeFraction_59 (by decide) ?_
              refine lv_l2i hx hb dX4_writeFraction_60 rfl ?_
              refine lv_iadd hx hb dX4_writeFraction_61 ?_
              obtain ⟨h17, hs⟩ := hs
              obtain ⟨u18, hu18⟩ : ∃ z, z = f_X4_write ((48 : Int32) + (x3v / (65536 : Int64)).toInt32) Ssv Smv := ⟨_, rfl⟩
              have hs := hs u18 hu18
              refine q_X4_write hx hb hml hown hts mM_RX4_29 ⟨Nat.le_of_ble_eq_true rfl, Nat.le_of_ble_eq_true rfl⟩ ⟨Nat.le_of_ble_eq_true rfl, Nat.le_of_ble_eq_true rfl⟩ hl.1 (Nat.le_of_ble_eq_true rfl) hS dX4_writeFraction_62 (fun _ h9 => fA_mono hS.1 h9) hi hK hP ((48 : Int32) + (x3v / (65536 : Int64)).toInt32) h17 u18 hu18 (fun H locs hP hS => ?_)
              refine lv_ldc2 hx hb hown (hts _ mK_RX4_37) dX4_writeFraction_65 ?_
              refine lv_lload_n hx hb dX4_writeFraction_68 rfl (lv_at hl 0 rfl) ?_
              refine lv_ldc2 hx hb hown (hts _ mK_RX4_39) dX4_writeFraction_69 ?_
              refine lv_lrem hx hb dX4_writeFraction_72 (by decide) ?_
              refine lv_lmul hx hb dX4_writeFraction_73 ?_
              refine lv_lstore_n (lv' := [(3, .long ((10 : Int64) * (x3v - x3v / (65536 : Int64) * (65536 : Int64)))), (5, .long x5v), (7, .int x7v), (0, .ref (ad 18)), (1, .long a0)]) hx hb dX4_writeFraction_74 rfl hl (by decide) rfl (fun ls hl => ?_)
              refine lv_lload hx hb dX4_writeFraction_75 (lv_at hl 1 rfl) ?_
              refine lv_ldc2 hx hb hown (hts _ mK_RX4_37) dX4_writeFraction_77 ?_
              refine lv_lmul hx hb dX4_writeFraction_80 ?_
              refine lv_lstore (lv' := [(5, .long (x5v * (10 : Int64))), (3, .long ((10 : Int64) * (x3v - x3v / (65536 : Int64) * (65536 : Int64)))), (7, .int x7v), (0, .ref (ad 18)), (1, .long a0)]) hx hb dX4_writeFraction_81 hl (by decide) rfl (fun ls hl => ?_)
              refine lv_iinc (v := (x7v + 1)) (lv' := [(7, .int (x7v + 1)), (5, .long (x5v * (10 : Int64))), (3, .long ((10 : Int64) * (x3v - x3v / (65536 : Int64) * (65536 : Int64)))), (0, .ref (ad 18)), (1, .long a0)]) hx hb dX4_writeFraction_83 hl (k := 2) rfl rfl (by decide) rfl (fun ls hl => ?_)
              refine lv_goto (tgt := 18) hx hb dX4_writeFraction_86 (by decide) ?_
              exact ih ((10 : Int64) * (x3v - x3v / (65536 : Int64) * (65536 : Int64))) (x5v * (10 : Int64)) (x7v + 1) u18.1 u18.2 _ _ _ hs (by rw [hq5, L_X4_writeFraction_18]; simp only [if_neg c6, if_neg c8, if_neg c14, if_pos c16, ← hu18, ↓reduceIte]) hP hS (lv_sub hl [2, 1, 0, 3, 4] rfl)
            · have c16 : ¬ x5v ≤ (65536 : Int64) := fun z => c16 (lc_le.mpr z)
              have hs := hs.2 c16
              refine lv_lload_n hx hb dX4_writeFraction_46 rfl (lv_at hl 0 rfl) ?_
              refine lv_ldc2 hx hb hown (hts _ mK_RX4_46) dX4_writeFraction_47 ?_
              refine lv_lsub hx hb dX4_writeFraction_50 ?_
              refine lv_lstore_n (lv' := [(3, .long (x3v - (17232 : Int64))), (5, .long x5v), (7, .int x7v), (0, .ref (ad 18)), (1, .long a0)]) hx hb dX4_writeFraction_51 rfl hl (by decide) rfl (fun ls hl => ?_)
              refine lv_aload_n hx hb dX4_writeFraction_52 rfl (lv_at hl 3 rfl) ?_
              refine lv_bipush (v := 48) hx hb dX4_writeFraction_53 (by decide) ?_
              refine lv_lload_n hx hb dX4_writeFraction_55 rfl (lv_at hl 0 rfl) ?_
              refine lv_ldc2 hx hb hown (hts _ mK_RX4_39) dX4_writeFraction_56 ?_
              refine lv_ldiv hx hb dX4_writeFraction_59 (by decide) ?_
              refine lv_l2i hx hb dX4_writeFraction_60 rfl ?_
              refine lv_iadd hx hb dX4_writeFraction_61 ?_
              obtain ⟨h19, hs⟩ := hs
              obtain ⟨u20, hu20⟩ : ∃ z, z = f_X4_write ((48 : Int32) + ((x3v - (17232 : Int64)) / (65536 : Int64)).toInt32) Ssv Smv := ⟨_, rfl⟩
              have hs := hs u20 hu20
              refine q_X4_write hx hb hml hown hts mM_RX4_29 ⟨Nat.le_of_ble_eq_true rfl, Nat.le_of_ble_eq_true rfl⟩ ⟨Nat.le_of_ble_eq_true rfl, Nat.le_of_ble_eq_true rfl⟩ hl.1 (Nat.le_of_ble_eq_true rfl) hS dX4_writeFraction_62 (fun _ h9 => fA_mono hS.1 h9) hi hK hP ((48 : Int32) + ((x3v - (17232 : Int64)) / (65536 : Int64)).toInt32) h19 u20 hu20 (fun H locs hP hS => ?_)
              refine lv_ldc2 hx hb hown (hts _ mK_RX4_37) dX4_writeFraction_65 ?_
              refine lv_lload_n hx hb dX4_writeFraction_68 rfl (lv_at hl 0 rfl) ?_
              refine lv_ldc2 hx hb hown (hts _ mK_RX4_39) dX4_writeFraction_69 ?_
              refine lv_lrem hx hb dX4_writeFraction_72 (by decide) ?_
              refine lv_lmul hx hb dX4_writeFraction_73 ?_
              refine lv_lstore_n (lv' := [(3, .long ((10 : Int64) * ((x3v - (17232 : Int64)) - (x3v - (17232 : Int64)) / (65536 : Int64) * (65536 : Int64)))), (5, .long x5v), (7, .int x7v), (0, .ref (ad 18)), (1, .long a0)]) hx hb dX4_writeFraction_74 rfl hl (by decide) rfl (fun ls hl => ?_)
              refine lv_lload hx hb dX4_writeFraction_75 (lv_at hl 1 rfl) ?_
              refine lv_ldc2 hx hb hown (hts _ mK_RX4_37) dX4_writeFraction_77 ?_
              refine lv_lmul hx hb dX4_writeFraction_80 ?_
              refine lv_lstore (lv' := [(5, .long (x5v * (10 : Int64))), (3, .long ((10 : Int64) * ((x3v - (17232 : Int64)) - (x3v - (17232 : Int64)) / (65536 : Int64) * (65536 : Int64)))), (7, .int x7v), (0, .ref (ad 18)), (1, .long a0)]) hx hb dX4_writeFraction_81 hl (by decide) rfl (fun ls hl => ?_)
              refine lv_iinc (v := (x7v + 1)) (lv' := [(7, .int (x7v + 1)), (5, .long (x5v * (10 : Int64))), (3, .long ((10 : Int64) * ((x3v - (17232 : Int64)) - (x3v - (17232 : Int64)) / (65536 : Int64) * (65536 : Int64)))), (0, .ref (ad 18)), (1, .long a0)]) hx hb dX4_writeFraction_83 hl (k := 2) rfl rfl (by decide) rfl (fun ls hl => ?_)
              refine lv_goto (tgt := 18) hx hb dX4_writeFraction_86 (by decide) ?_
              exact ih ((10 : Int64) * ((x3v - (17232 : Int64)) - (x3v - (17232 : Int64)) / (65536 : Int64) * (65536 : Int64))) (x5v * (10 : Int64)) (x7v + 1) u20.1 u20.2 _ _ _ hs (by rw [hq5, L_X4_writeFraction_18]; simp only [if_neg c6, if_neg c8, if_neg c14, if_neg c16, ← hu20, ↓reduceIte]) hP hS (lv_sub hl [2, 1, 0, 3, 4] rfl)
  exact hlp4 10 (((10 : Int64) * a0) + (5 : Int64)) (10 : Int64) (0 : Int32) Ss Sm _ _ _ h2 hu1 hP hS (lv_sub hl [2, 1, 0, 3, 4] rfl)
theorem q_X4_writeFraction {p : Program} {l : Launch} {e : Env} {R : Room} {s : State} {m : MethodId} {args : Array Value} {below : List Frame} {meth : Method} {c : Code} {H : Heap} {locs : List Loc} {cells slots : Nat} {Q : State → Prop} {pc : Nat} {ls : Array Slot} {rest : List Value} {cc : ByteArray} {nL idx : Nat} {own : String} {A0 : Nat → Prop} {dC : Nat → ClassId} {dI : Nat → Nat → Nat} {cI cJ : ClassId} {ad : Nat → Nat} {Bc : Nat → Int64} {Bl : Nat → Int32} {Pk : Nat → Int32} {Pr : Nat → Int32} {Pl : Nat → Int32} {Pc : Nat → Int64} {Pm : Int32} {Gf : Nat → Int32} {Gt : Nat → Int32} {Gx : Nat → Int32} {Gd : Int32} {Gm : Int32} {Ek : Nat → Int32} {Er : Nat → Int32} {Ea : Nat → Int32} {Ex : Nat → Int32} {Em : Int32} {Eb : Int32} {Et : Int32} {Ss : Nat → Int32} {Sm : Int32} {Wg : Nat → Int64} {Wr : Nat → Int64} {Md : Nat → Int64} (hx : p.tables.exec = Jvm.exec) (hb : c.code = cc) (hml : c.maxLocals = nL) (hown : s.vm.findClass own = some m.cls) (hts : ∀ w ∈ bigW, w.before args s = true) (hlk : Cond.methodLink own idx yX4_writeFraction ∈ bigW) (hR : 2 ≤ R.frames ∧ 48 ≤ R.locals) (hf : cells + 0 ≤ R.cells ∧ slots + 0 ≤ R.slots) (hz : ls.size = nL) (hw : (rest.map fun v => v.category).sum ≤ 8) (hS : va_S A0 s.heap H locs) (hd : decode cc pc = .ok (.invokevirtual idx, 3)) (hA : ∀ q, fA 23 ad H.size q → A0 q) (hi : fI 23 ad) (hK : va_K (dC, dI) vwCl [(cI, .int), (cJ, .long)] s) (hP : va_P (dC, dI) vwCl (wC ad cI cJ Bc Bl Pk Pr Pl Pc Pm Gf Gt Gx Gd Gm Ek Er Ea Ex Em Eb Et Ss Sm Wg Wr Md) H) (a0 : Int64) (hs : S_X4_writeFraction a0 Ss Sm)  (u : (Nat → Int32) × Int32) (hu : u = f_X4_writeFraction a0 Ss Sm) (k : ∀ (H1 : Heap) (locs1 : List Loc), va_P (dC, dI) vwCl (wC ad cI cJ Bc Bl Pk Pr Pl Pc Pm Gf Gt Gx Gd Gm Ek Er Ea Ex Em Eb Et u.1 u.2 Wg Wr Md) H1 → va_S A0 s.heap H1 locs1 → W p l e R s m args below meth c H1 locs1 (cells + 0) (slots + 0) Q (F0 m (pc + 3) ls (rest))) : W p l e R s m args below meth c H locs cells slots Q (F0 m pc ls (.long a0 :: .ref (ad 18) :: rest)) := by
  subst hu
  exact va_callv (va_runV (As := [.long a0]) (rest := rest) ⟨hx, hb, hml, hown, hts⟩ (c_X4_writeFraction l dC dI cI cJ ad hi H.size Bc Bl Pk Pr Pl Pc Pm Gf Gt Gx Gd Gm Ek Er Ea Ex Em Eb Et Ss Sm Wg Wr Md a0 hs) (kV 1 hts hlk mI_X4_writeFraction mN_RX4 mY_X4_writeFraction mV_X4_writeFraction rfl rfl (by decide +kernel) hR) ⟨fun a U g mk q => ⟨q.1, q.2.1, q.2.2.1, va_K.moved (u := U) (U := U.calling g mk a) (Vm.Alike.refl U.vm) q.2.2.2⟩, va_recv hK hP (ci := 6) (q0 := 18) rfl rfl, fun U hU hW => ⟨rfl, by rw [hU], by rw [hU]; exact hP, va_K.moved hW.alike hK⟩⟩ rfl rfl hz rfl (lv_room hw) hd hf) hS (fun q _ h => hA q h) (fun q h => hA q h) (fun u t H1 locs1 ht hvm hw9 hB hz1 hk1 hS1 => by
    skip
    exact k H1 locs1 (by rw [← ht]; exact hB) hS1)

def f_X4_writeLength (a0 : Int64) (Ss : Nat → Int32) (Sm : Int32) : (Nat → Int32) × Int32 := (if (0 : Int64) ≤ a0 then (let u4 := f_X4_writeDigits (a0 / (65536 : Int64)) Ss Sm; (let u6 := f_X4_write (46 : Int32) u4.1 u4.2; (let u8 := f_X4_writeFraction (a0 - a0 / (65536 : Int64) * (65536 : Int64)) u6.1 u6.2; (u8.1, u8.2)))) else (let u10 := f_X4_write (45 : Int32) Ss Sm; (let u13 := f_X4_writeDigits ((-a0) / (65536 : Int64)) u10.1 u10.2; (let u15 := f_X4_write (46 : Int32) u13.1 u13.2; (let u17 := f_X4_writeFraction ((-a0) - (-a0) / (65536 : Int64) * (65536 : Int64)) u15.1 u15.2; (u17.1, u17.2))))))
def S_X4_writeLength (a0 : Int64) (Ss : Nat → Int32) (Sm : Int32) : Prop := ((0 : Int64) ≤ a0 → ((S_X4_writeDigits (a0 / (65536 : Int64)) Ss Sm) ∧ (∀ u4, u4 = f_X4_writeDigits (a0 / (65536 : Int64)) Ss Sm → ((S_X4_write (46 : Int32) u4.1 u4.2) ∧ (∀ u6, u6 = f_X4_write (46 : Int32) u4.1 u4.2 → ((S_X4_writeFraction (a0 - a0 / (65536 : Int64) * (65536 : Int64)) u6.1 u6.2) ∧ (∀ u8, u8 = f_X4_writeFraction (a0 - a0 / (65536 : Int64) * (65536 : Int64)) u6.1 u6.2 → (True)))))))) ∧ (¬ (0 : Int64) ≤ a0 → ((S_X4_write (45 : Int32) Ss Sm) ∧ (∀ u10, u10 = f_X4_write (45 : Int32) Ss Sm → ((S_X4_writeDigits ((-a0) / (65536 : Int64)) u10.1 u10.2) ∧ (∀ u13, u13 = f_X4_writeDigits ((-a0) / (65536 : Int64)) u10.1 u10.2 → ((S_X4_write (46 : Int32) u13.1 u13.2) ∧ (∀ u15, u15 = f_X4_write (46 : Int32) u13.1 u13.2 → ((S_X4_writeFraction ((-a0) - (-a0) / (65536 : Int64) * (65536 : Int64)) u15.1 u15.2) ∧ (∀ u17, u17 = f_X4_writeFraction ((-a0) - (-a0) / (65536 : Int64) * (65536 : Int64)) u15.1 u15.2 → (True))))))))))
set_option maxHeartbeats 4000000 in
set_option maxRecDepth 100000 in
theorem c_X4_writeLength (l : Launch) (dC : Nat → ClassId) (dI : Nat → Nat → Nat) (cI cJ : ClassId) (ad : Nat → Nat) (hi : fI 23 ad) (sz : Nat) (Bc : Nat → Int64) (Bl : Nat → Int32) (Pk : Nat → Int32) (Pr : Nat → Int32) (Pl : Nat → Int32) (Pc : Nat → Int64) (Pm : Int32) (Gf : Nat → Int32) (Gt : Nat → Int32) (Gx : Nat → Int32) (Gd : Int32) (Gm : Int32) (Ek : Nat → Int32) (Er : Nat → Int32) (Ea : Nat → Int32) (Ex : Nat → Int32) (Em : Int32) (Eb : Int32) (Et : Int32) (Ss : Nat → Int32) (Sm : Int32) (Wg : Nat → Int64) (Wr : Nat → Int64) (Md : Nat → Int64) (a0 : Int64) (hs : S_X4_writeLength a0 Ss Sm) : Met l yX4_writeLength (mW yX4_writeLength cX4_writeLength 5 none) { frames := 2, cells := 0, slots := 0, locals := 48 } (va_Pc [.ref (ad 18), .long a0] (fun U => U.heap.size = sz ∧ va_P (dC, dI) vwCl (wC ad cI cJ Bc Bl Pk Pr Pl Pc Pm Gf Gt Gx Gd Gm Ek Er Ea Ex Em Eb Et Ss Sm Wg Wr Md) U.heap ∧ va_K (dC, dI) vwCl [(cI, .int), (cJ, .long)] U)) (va_Qv (fun (_ : Unit) => True) (fun _ t => va_P (dC, dI) vwCl (wC ad cI cJ Bc Bl Pk Pr Pl Pc Pm Gf Gt Gx Gd Gm Ek Er Ea Ex Em Eb Et ((f_X4_writeLength a0 Ss Sm).1) ((f_X4_writeLength a0 Ss Sm).2) Wg Wr Md) t.heap) (fA 23 ad sz)) 0 0 (fA 23 ad sz) := by
  refine Met.ofW (cc := cX4_writeLength) (maxL := 5) (ret := none) (by decide) rfl ?_
  intro p e s m args below meth c s₁ B hml hv
  obtain ⟨rfl, hsz, hP, hK⟩ := hv
  have hx := B.exec
  have hb := B.bytes
  have hr := B.returns
  have hts := mW_hts (atoms_spec (ws := (mW yX4_writeLength cX4_writeLength 5 none)) B.pre)
  have hown : s.vm.findClass RX4 = some m.cls := findClass_of_methodNamed B.named
  have hlocks := B.notSynchronized
  subst hsz
  have hA : ∀ (n : Nat) (q : Nat), s.heap.size ≤ n → n ≤ q → fA 23 ad s.heap.size q := fun n q h1 h2 => Or.inr (Nat.le_trans h1 h2)
  have hS : va_S (fA 23 ad s.heap.size) s.heap s.heap [] := va_S.rf
  have hA : ∀ q, s.heap.size ≤ q → (fA 23 ad s.heap.size) q := fun q h => Or.inr h
  unfold S_X4_writeLength at hs
  have hl := lv_entry ([.ref (ad 18), .long a0]) (n := 5) (Nat.le_of_ble_eq_true rfl)
  rw [lg_entry_eq]
  generalize (lg_sl ([.ref (ad 18), .long a0]) ++ List.replicate (5 - (lg_sl ([.ref (ad 18), .long a0])).length) Slot.unset).toArray = ls at hl ⊢
  have hl : lv_has ls 5 [(0, .ref (ad 18)), (1, .long a0)] := hl
  refine W_gen (fun Q9 hQ9 => ?_)
  refine lv_lload_n hx hb dX4_writeLength_0 rfl (lv_at hl 1 rfl) ?_
  refine lv_lconst (v := 0) hx hb dX4_writeLength_1 (by decide) ?_
  refine W.lcmp hx hb dX4_writeLength_2 ?_
  refine lv_if_ge (tgt := 12) hx hb dX4_writeLength_3 (by decide) (fun c1 => ?_) (fun c1 => ?_)
  · have c1 : (0 : Int64) ≤ a0 := lc_ge.mp c1
    have hs := hs.1 c1
    refine lv_lload_n hx hb dX4_writeLength_12 rfl (lv_at hl 1 rfl) ?_
    refine lv_lconst (v := 0) hx hb dX4_writeLength_13 (by decide) ?_
    refine W.lcmp hx hb dX4_writeLength_14 ?_
    refine lv_if_ge (tgt := 23) hx hb dX4_writeLength_15 (by decide) (fun c2 => ?_) (fun c2 => ?_)
    · have c2 : (0 : Int64) ≤ a0 := lc_ge.mp c2
      refine lv_lload_n hx hb dX4_writeLength_23 rfl (lv_at hl 1 rfl) ?_
      refine lv_lstore_n (lv' := [(3, .long a0), (0, .ref (ad 18)), (1, .long a0)]) hx hb dX4_writeLength_24 rfl hl (by decide) rfl (fun ls hl => ?_)
      refine lv_aload_n hx hb dX4_writeLength_25 rfl (lv_at hl 1 rfl) ?_
      refine lv_lload_n hx hb dX4_writeLength_26 rfl (lv_at hl 0 rfl) ?_
      refine lv_ldc2 hx hb hown (hts _ mK_RX4_39) dX4_writeLength_27 ?_
      refine lv_ldiv hx hb dX4_writeLength_30 (by decide) ?_
      obtain ⟨h3, hs⟩ := hs
      obtain ⟨u4, hu4⟩ : ∃ z, z = f_X4_writeDigits (a0 / (65536 : Int64)) Ss Sm := ⟨_, rfl⟩
      have hs := hs u4 hu4
      refine q_X4_writeDigits hx hb hml hown hts mM_RX4_33 ⟨Nat.le_of_ble_eq_true rfl, Nat.le_of_ble_eq_true rfl⟩ ⟨Nat.le_of_ble_eq_true rfl, Nat.le_of_ble_eq_true rfl⟩ hl.1 (Nat.le_of_ble_eq_true rfl) hS dX4_writeLength_31 (fun _ h9 => fA_mono hS.1 h9) hi hK hP (a0 / (65536 : Int64)) h3 u4 hu4 (fun H locs hP hS => ?_)
      refine lv_aload_n hx hb dX4_writeLength_34 rfl (lv_at hl 1 rfl) ?_
      refine lv_bipush (v := 46) hx hb dX4_writeLength_35 (by decide) ?_
      obtain ⟨h5, hs⟩ := hs
      obtain ⟨u6, hu6⟩ : ∃ z, z = f_X4_write (46 : Int32) u4.1 u4.2 := ⟨_, rfl⟩
      have hs := hs u6 hu6
      refine q_X4_write hx hb hml hown hts mM_RX4_29 ⟨Nat.le_of_ble_eq_true rfl, Nat.le_of_ble_eq_true rfl⟩ ⟨Nat.le_of_ble_eq_true rfl, Nat.le_of_ble_eq_true rfl⟩ hl.1 (Nat.le_of_ble_eq_true rfl) hS dX4_writeLength_37 (fun _ h9 => fA_mono hS.1 h9) hi hK hP (46 : Int32) h5 u6 hu6 (fun H locs hP hS => ?_)
      refine lv_aload_n hx hb dX4_writeLength_40 rfl (lv_at hl 1 rfl) ?_
      refine lv_lload_n hx hb dX4_writeLength_41 rfl (lv_at hl 0 rfl) ?_
      refine lv_ldc2 hx hb hown (hts _ mK_RX4_39) dX4_writeLength_42 ?_
      refine lv_lrem hx hb dX4_writeLength_45 (by decide) ?_
      obtain ⟨h7, hs⟩ := hs
      obtain ⟨u8, hu8⟩ : ∃ z, z = f_X4_writeFraction (a0 - a0 / (65536 : Int64) * (65536 : Int64)) u6.1 u6.2 := ⟨_, rfl⟩
      have hs := hs u8 hu8
      refine q_X4_writeFraction hx hb hml hown hts mM_RX4_41 ⟨Nat.le_of_ble_eq_true rfl, Nat.le_of_ble_eq_true rfl⟩ ⟨Nat.le_of_ble_eq_true rfl, Nat.le_of_ble_eq_true rfl⟩ hl.1 (Nat.le_of_ble_eq_true rfl) hS dX4_writeLength_46 (fun _ h9 => fA_mono hS.1 h9) hi hK hP (a0 - a0 / (65536 : Int64) * (65536 : Int64)) h7 u8 hu8 (fun H locs hP hS => ?_)
      rw [hQ9]
      have hf : f_X4_writeLength a0 Ss Sm = (u8.1, u8.2) := by simp only [f_X4_writeLength, if_pos c1, ← hu4, ← hu6, ← hu8]
      exact W.vret hx hb hr (fun t ht hW => ⟨⟨(), rfl, True.intro, by rw [hf]; show va_P (dC, dI) vwCl _ t.heap; rw [ht]; exact hP⟩, hS.F ht⟩) hS.2.2 dX4_writeLength_49
    · have c2 : ¬ (0 : Int64) ≤ a0 := fun z => c2 (lc_ge.mpr z)
      exact absurd c1 c2
  · have c1 : ¬ (0 : Int64) ≤ a0 := fun z => c1 (lc_ge.mpr z)
    have hs := hs.2 c1
    refine lv_aload_n hx hb dX4_writeLength_6 rfl (lv_at hl 0 rfl) ?_
    refine lv_bipush (v := 45) hx hb dX4_writeLength_7 (by decide) ?_
    obtain ⟨h9, hs⟩ := hs
    obtain ⟨u10, hu10⟩ : ∃ z, z = f_X4_write (45 : Int32) Ss Sm := ⟨_, rfl⟩
    have hs := hs u10 hu10
    refine q_X4_write hx hb hml hown hts mM_RX4_29 ⟨Nat.le_of_ble_eq_true rfl, Nat.le_of_ble_eq_true rfl⟩ ⟨Nat.le_of_ble_eq_true rfl, Nat.le_of_ble_eq_true rfl⟩ hl.1 (Nat.le_of_ble_eq_true rfl) hS dX4_writeLength_9 (fun _ h9 => fA_mono hS.1 h9) hi hK hP (45 : Int32) h9 u10 hu10 (fun H locs hP hS => ?_)
    refine lv_lload_n hx hb dX4_writeLength_12 rfl (lv_at hl 1 rfl) ?_
    refine lv_lconst (v := 0) hx hb dX4_writeLength_13 (by decide) ?_
    refine W.lcmp hx hb dX4_writeLength_14 ?_
    refine lv_if_ge (tgt := 23) hx hb dX4_writeLength_15 (by decide) (fun c11 => ?_) (fun c11 => ?_)
    · have c11 : (0 : Int64) ≤ a0 := lc_ge.mp c11
      exact absurd c11 c1
    · have c11 : ¬ (0 : Int64) ≤ a0 := fun z => c11 (lc_ge.mpr z)
      refine lv_lload_n hx hb dX4_writeLength_18 rfl (lv_at hl 1 rfl) ?_
      refine lv_lneg hx hb dX4_writeLength_19 ?_
      refine lv_goto (tgt := 24) hx hb dX4_writeLength_20 (by decide) ?_
      refine lv_lstore_n (lv' := [(3, .long (-a0)), (0, .ref (ad 18)), (1, .long a0)]) hx hb dX4_writeLength_24 rfl hl (by decide) rfl (fun ls hl => ?_)
      refine lv_aload_n hx hb dX4_writeLength_25 rfl (lv_at hl 1 rfl) ?_
      refine lv_lload_n hx hb dX4_writeLength_26 rfl (lv_at hl 0 rfl) ?_
      refine lv_ldc2 hx hb hown (hts _ mK_RX4_39) dX4_writeLength_27 ?_
      refine lv_ldiv hx hb dX4_writeLength_30 (by decide) ?_
      obtain ⟨h12, hs⟩ := hs
      obtain ⟨u13, hu13⟩ : ∃ z, z = f_X4_writeDigits ((-a0) / (65536 : Int64)) u10.1 u10.2 := ⟨_, rfl⟩
      have hs := hs u13 hu13
      refine q_X4_writeDigits hx hb hml hown hts mM_RX4_33 ⟨Nat.le_of_ble_eq_true rfl, Nat.le_of_ble_eq_true rfl⟩ ⟨Nat.le_of_ble_eq_true rfl, Nat.le_of_ble_eq_true rfl⟩ hl.1 (Nat.le_of_ble_eq_true rfl) hS dX4_writeLength_31 (fun _ h9 => fA_mono hS.1 h9) hi hK hP ((-a0) / (65536 : Int64)) h12 u13 hu13 (fun H locs hP hS => ?_)
      refine lv_aload_n hx hb dX4_writeLength_34 rfl (lv_at hl 1 rfl) ?_
      refine lv_bipush (v := 46) hx hb dX4_writeLength_35 (by decide) ?_
      obtain ⟨h14, hs⟩ := hs
      obtain ⟨u15, hu15⟩ : ∃ z, z = f_X4_write (46 : Int32) u13.1 u13.2 := ⟨_, rfl⟩
      have hs := hs u15 hu15
      refine q_X4_write hx hb hml hown hts mM_RX4_29 ⟨Nat.le_of_ble_eq_true rfl, Nat.le_of_ble_eq_true rfl⟩ ⟨Nat.le_of_ble_eq_true rfl, Nat.le_of_ble_eq_true rfl⟩ hl.1 (Nat.le_of_ble_eq_true rfl) hS dX4_writeLength_37 (fun _ h9 => fA_mono hS.1 h9) hi hK hP (46 : Int32) h14 u15 hu15 (fun H locs hP hS => ?_)
      refine lv_aload_n hx hb dX4_writeLength_40 rfl (lv_at hl 1 rfl) ?_
      refine lv_lload_n hx hb dX4_writeLength_41 rfl (lv_at hl 0 rfl) ?_
      refine lv_ldc2 hx hb hown (hts _ mK_RX4_39) dX4_writeLength_42 ?_
      refine lv_lrem hx hb dX4_writeLength_45 (by decide) ?_
      obtain ⟨h16, hs⟩ := hs
      obtain ⟨u17, hu17⟩ : ∃ z, z = f_X4_writeFraction ((-a0) - (-a0) / (65536 : Int64) * (65536 : Int64)) u15.1 u15.2 := ⟨_, rfl⟩
      have hs := hs u17 hu17
      refine q_X4_writeFraction hx hb hml hown hts mM_RX4_41 ⟨Nat.le_of_ble_eq_true rfl, Nat.le_of_ble_eq_true rfl⟩ ⟨Nat.le_of_ble_eq_true rfl, Nat.le_of_ble_eq_true rfl⟩ hl.1 (Nat.le_of_ble_eq_true rfl) hS dX4_writeLength_46 (fun _ h9 => fA_mono hS.1 h9) hi hK hP ((-a0) - (-a0) / (65536 : Int64) * (65536 : Int64)) h16 u17 hu17 (fun H locs hP hS => ?_)
      rw [hQ9]
      have hf : f_X4_writeLength a0 Ss Sm = (u17.1, u17.2) := by simp only [f_X4_writeLength, if_neg c1, ← hu10, ← hu13, ← hu15, ← hu17]
      exact W.vret hx hb hr (fun t ht hW => ⟨⟨(), rfl, True.intro, by rw [hf]; show va_P (dC, dI) vwCl _ t.heap; rw [ht]; exact hP⟩, hS.F ht⟩) hS.2.2 dX4_writeLength_49
theorem q_X4_writeLength {p : Program} {l : Launch} {e : Env} {R : Room} {s : State} {m : MethodId} {args : Array Value} {below : List Frame} {meth : Method} {c : Code} {H : Heap} {locs : List Loc} {cells slots : Nat} {Q : State → Prop} {pc : Nat} {ls : Array Slot} {rest : List Value} {cc : ByteArray} {nL idx : Nat} {own : String} {A0 : Nat → Prop} {dC : Nat → ClassId} {dI : Nat → Nat → Nat} {cI cJ : ClassId} {ad : Nat → Nat} {Bc : Nat → Int64} {Bl : Nat → Int32} {Pk : Nat → Int32} {Pr : Nat → Int32} {Pl : Nat → Int32} {Pc : Nat → Int64} {Pm : Int32} {Gf : Nat → Int32} {Gt : Nat → Int32} {Gx : Nat → Int32} {Gd : Int32} {Gm : Int32} {Ek : Nat → Int32} {Er : Nat → Int32} {Ea : Nat → Int32} {Ex : Nat → Int32} {Em : Int32} {Eb : Int32} {Et : Int32} {Ss : Nat → Int32} {Sm : Int32} {Wg : Nat → Int64} {Wr : Nat → Int64} {Md : Nat → Int64} (hx : p.tables.exec = Jvm.exec) (hb : c.code = cc) (hml : c.maxLocals = nL) (hown : s.vm.findClass own = some m.cls) (hts : ∀ w ∈ bigW, w.before args s = true) (hlk : Cond.methodLink own idx yX4_writeLength ∈ bigW) (hR : 3 ≤ R.frames ∧ 72 ≤ R.locals) (hf : cells + 0 ≤ R.cells ∧ slots + 0 ≤ R.slots) (hz : ls.size = nL) (hw : (rest.map fun v => v.category).sum ≤ 8) (hS : va_S A0 s.heap H locs) (hd : decode cc pc = .ok (.invokevirtual idx, 3)) (hA : ∀ q, fA 23 ad H.size q → A0 q) (hi : fI 23 ad) (hK : va_K (dC, dI) vwCl [(cI, .int), (cJ, .long)] s) (hP : va_P (dC, dI) vwCl (wC ad cI cJ Bc Bl Pk Pr Pl Pc Pm Gf Gt Gx Gd Gm Ek Er Ea Ex Em Eb Et Ss Sm Wg Wr Md) H) (a0 : Int64) (hs : S_X4_writeLength a0 Ss Sm)  (u : (Nat → Int32) × Int32) (hu : u = f_X4_writeLength a0 Ss Sm) (k : ∀ (H1 : Heap) (locs1 : List Loc), va_P (dC, dI) vwCl (wC ad cI cJ Bc Bl Pk Pr Pl Pc Pm Gf Gt Gx Gd Gm Ek Er Ea Ex Em Eb Et u.1 u.2 Wg Wr Md) H1 → va_S A0 s.heap H1 locs1 → W p l e R s m args below meth c H1 locs1 (cells + 0) (slots + 0) Q (F0 m (pc + 3) ls (rest))) : W p l e R s m args below meth c H locs cells slots Q (F0 m pc ls (.long a0 :: .ref (ad 18) :: rest)) := by
  subst hu
  exact va_callv (va_runV (As := [.long a0]) (rest := rest) ⟨hx, hb, hml, hown, hts⟩ (c_X4_writeLength l dC dI cI cJ ad hi H.size Bc Bl Pk Pr Pl Pc Pm Gf Gt Gx Gd Gm Ek Er Ea Ex Em Eb Et Ss Sm Wg Wr Md a0 hs) (kV 1 hts hlk mI_X4_writeLength mN_RX4 mY_X4_writeLength mV_X4_writeLength rfl rfl (by decide +kernel) hR) ⟨fun a U g mk q => ⟨q.1, q.2.1, q.2.2.1, va_K.moved (u := U) (U := U.calling g mk a) (Vm.Alike.refl U.vm) q.2.2.2⟩, va_recv hK hP (ci := 6) (q0 := 18) rfl rfl, fun U hU hW => ⟨rfl, by rw [hU], by rw [hU]; exact hP, va_K.moved hW.alike hK⟩⟩ rfl rfl hz rfl (lv_room hw) hd hf) hS (fun q _ h => hA q h) (fun q h => hA q h) (fun u t H1 locs1 ht hvm hw9 hB hz1 hk1 hS1 => by
    skip
    exact k H1 locs1 (by rw [← ht]; exact hB) hS1)
