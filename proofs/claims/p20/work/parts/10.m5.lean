def L_X6_end_220 : Nat → Int32 → Int32 → Int32 → (Nat → Int32) → Int32 → Int32 → (Nat → Int32) → (Nat → Int32) → Int32 × Int32 × Int32 × (Nat → Int32)
  | 0, x2, x3, Be, Bt, De, To, Tt, Td => (x2, x3, Be, Bt)
  | n + 1, x2, x3, Be, Bt, De, To, Tt, Td => (if To ≤ x3 then (x2, x3, Be, Bt) else (if (Td x3.toNatClampNeg) = De then L_X6_end_220 n x2 (x3 + 1) (Be + (1 : Int32)) (upd Bt Be.toNatClampNeg (Tt x3.toNatClampNeg)) De To Tt Td else L_X6_end_220 n (x2 + 1) (x3 + 1) Be Bt De To Tt Td))
def SL_X6_end_220 : Nat → Int32 → Int32 → Int32 → (Nat → Int32) → Int32 → Int32 → (Nat → Int32) → (Nat → Int32) → Prop
  | 0, _, _, _, _, _, _, _, _ => False
  | n + 1, x2, x3, Be, Bt, De, To, Tt, Td => (To ≤ x3 → (True)) ∧ (¬ To ≤ x3 → ((vp_in x3 60) ∧ (((Td x3.toNatClampNeg) = De → ((vp_in x3 60) ∧ ((vp_in Be 60) ∧ (SL_X6_end_220 n x2 (x3 + 1) (Be + (1 : Int32)) (upd Bt Be.toNatClampNeg (Tt x3.toNatClampNeg)) De To Tt Td)))) ∧ (¬ (Td x3.toNatClampNeg) = De → (SL_X6_end_220 n (x2 + 1) (x3 + 1) Be Bt De To Tt Td)))))
def L_X6_end_124 : Nat → Int32 → (Nat → Int64) → Int32 → (Nat → Int32) → Int32 → (Nat → Int64) → Int32 × (Nat → Int64)
  | 0, x3, Ce, x2, Le, Ke, Kc => (x3, Ce)
  | n + 1, x3, Ce, x2, Le, Ke, Kc => (if (21 : Int32) ≤ x3 then (x3, Ce) else (if (Le x2.toNatClampNeg) = 0 then (x3, Ce) else L_X6_end_124 n (x3 + 1) (vp_updL Ce (((21 : Int32) * x2) + x3).toNatClampNeg (Kc (((21 : Int32) * Ke) + x3).toNatClampNeg)) x2 Le Ke Kc))
def SL_X6_end_124 : Nat → Int32 → (Nat → Int64) → Int32 → (Nat → Int32) → Int32 → (Nat → Int64) → Prop
  | 0, _, _, _, _, _, _ => False
  | n + 1, x3, Ce, x2, Le, Ke, Kc => ((21 : Int32) ≤ x3 → (True)) ∧ (¬ (21 : Int32) ≤ x3 → ((vp_in x2 160) ∧ (((Le x2.toNatClampNeg) = 0 → (True)) ∧ (¬ (Le x2.toNatClampNeg) = 0 → ((vp_in (((21 : Int32) * Ke) + x3) 4200) ∧ ((vp_in (((21 : Int32) * x2) + x3) 3360) ∧ (SL_X6_end_124 n (x3 + 1) (vp_updL Ce (((21 : Int32) * x2) + x3).toNatClampNeg (Kc (((21 : Int32) * Ke) + x3).toNatClampNeg)) x2 Le Ke Kc)))))))
def L_X6_end_32 : Nat → Int32 → (Nat → Int64) → (Nat → Int32) → Int32 → Int32 → (Nat → Int32) → (Nat → Int32) → Int32 → (Nat → Int64) → (Nat → Int32) → (Nat → Int32) → (Nat → Int32) → Int32 × (Nat → Int64) × (Nat → Int32) × Int32 × Int32 × (Nat → Int32) × (Nat → Int32)
  | 0, x1, Ce, Le, Ke, Go, Gg, Ga, De, Kc, Ko, Kl, Kd => (x1, Ce, Le, Ke, Go, Gg, Ga)
  | n + 1, x1, Ce, Le, Ke, Go, Gg, Ga, De, Kc, Ko, Kl, Kd => (if Ke ≤ 0 then (x1, Ce, Le, Ke, Go, Gg, Ga) else (if (Kd (Ke - (1 : Int32)).toNatClampNeg) = De then (if (Le (Ko (Ke - (1 : Int32)).toNatClampNeg).toNatClampNeg) = 0 then (let u29 := L_X6_end_124 22 (0 : Int32) Ce (Ko (Ke - (1 : Int32)).toNatClampNeg) Le (Ke - (1 : Int32)) Kc; L_X6_end_32 n (x1 + ((upd Ga Go.toNatClampNeg (0 : Int32)) Go.toNatClampNeg)) u29.2 (upd Le (Ko (Ke - (1 : Int32)).toNatClampNeg).toNatClampNeg (0 : Int32)) (Ke - (1 : Int32)) (Go + (1 : Int32)) (upd Gg Go.toNatClampNeg (Ko (Ke - (1 : Int32)).toNatClampNeg)) (upd Ga Go.toNatClampNeg (0 : Int32)) De Kc Ko Kl Kd) else (let u12 := L_X6_end_124 22 (0 : Int32) Ce (Ko (Ke - (1 : Int32)).toNatClampNeg) Le (Ke - (1 : Int32)) Kc; L_X6_end_32 n (x1 + ((upd Ga Go.toNatClampNeg (1 : Int32)) Go.toNatClampNeg)) u12.2 (upd Le (Ko (Ke - (1 : Int32)).toNatClampNeg).toNatClampNeg (Kl (Ke - (1 : Int32)).toNatClampNeg)) (Ke - (1 : Int32)) (Go + (1 : Int32)) (upd Gg Go.toNatClampNeg (Ko (Ke - (1 : Int32)).toNatClampNeg)) (upd Ga Go.toNatClampNeg (1 : Int32)) De Kc Ko Kl Kd)) else (x1, Ce, Le, Ke, Go, Gg, Ga)))
def SL_X6_end_32 : Nat → Int32 → (Nat → Int64) → (Nat → Int32) → Int32 → Int32 → (Nat → Int32) → (Nat → Int32) → Int32 → (Nat → Int64) → (Nat → Int32) → (Nat → Int32) → (Nat → Int32) → Prop
  | 0, _, _, _, _, _, _, _, _, _, _, _, _ => False
  | n + 1, x1, Ce, Le, Ke, Go, Gg, Ga, De, Kc, Ko, Kl, Kd => (Ke ≤ 0 → (True)) ∧ (¬ Ke ≤ 0 → ((vp_in (Ke - (1 : Int32)) 200) ∧ (((Kd (Ke - (1 : Int32)).toNatClampNeg) = De → ((vp_in (Ke - (1 : Int32)) 200) ∧ ((vp_in Go 200) ∧ ((vp_in (Ko (Ke - (1 : Int32)).toNatClampNeg) 160) ∧ (((Le (Ko (Ke - (1 : Int32)).toNatClampNeg).toNatClampNeg) = 0 → ((vp_in Go 200) ∧ ((vp_in Go 200) ∧ ((SL_X6_end_124 22 (0 : Int32) Ce (Ko (Ke - (1 : Int32)).toNatClampNeg) Le (Ke - (1 : Int32)) Kc) ∧ (∀ u29, u29 = L_X6_end_124 22 (0 : Int32) Ce (Ko (Ke - (1 : Int32)).toNatClampNeg) Le (Ke - (1 : Int32)) Kc → ((vp_in (Ko (Ke - (1 : Int32)).toNatClampNeg) 160) ∧ ((vp_in (Ko (Ke - (1 : Int32)).toNatClampNeg) 160) ∧ (SL_X6_end_32 n (x1 + ((upd Ga Go.toNatClampNeg (0 : Int32)) Go.toNatClampNeg)) u29.2 (upd Le (Ko (Ke - (1 : Int32)).toNatClampNeg).toNatClampNeg (0 : Int32)) (Ke - (1 : Int32)) (Go + (1 : Int32)) (upd Gg Go.toNatClampNeg (Ko (Ke - (1 : Int32)).toNatClampNeg)) (upd Ga Go.toNatClampNeg (0 : Int32)) De Kc Ko Kl Kd)))))))) ∧ (¬ (Le (Ko (Ke - (1 : Int32)).toNatClampNeg).toNatClampNeg) = 0 → ((vp_in Go 200) ∧ ((vp_in Go 200) ∧ ((SL_X6_end_124 22 (0 : Int32) Ce (Ko (Ke - (1 : Int32)).toNatClampNeg) Le (Ke - (1 : Int32)) Kc) ∧ (∀ u12, u12 = L_X6_end_124 22 (0 : Int32) Ce (Ko (Ke - (1 : Int32)).toNatClampNeg) Le (Ke - (1 : Int32)) Kc → ((vp_in (Ko (Ke - (1 : Int32)).toNatClampNeg) 160) ∧ ((vp_in (Ke - (1 : Int32)) 200) ∧ ((vp_in (Ko (Ke - (1 : Int32)).toNatClampNeg) 160) ∧ (SL_X6_end_32 n (x1 + ((upd Ga Go.toNatClampNeg (1 : Int32)) Go.toNatClampNeg)) u12.2 (upd Le (Ko (Ke - (1 : Int32)).toNatClampNeg).toNatClampNeg (Kl (Ke - (1 : Int32)).toNatClampNeg)) (Ke - (1 : Int32)) (Go + (1 : Int32)) (upd Gg Go.toNatClampNeg (Ko (Ke - (1 : Int32)).toNatClampNeg)) (upd Ga Go.toNatClampNeg (1 : Int32)) De Kc Ko Kl Kd)))))))))))))) ∧ (¬ (Kd (Ke - (1 : Int32)).toNatClampNeg) = De → (True)))))
def f_X6_end (Th : Int32) (Ce : Nat → Int64) (Le : Nat → Int32) (De : Int32) (Ke : Int32) (Kc : Nat → Int64) (Ko : Nat → Int32) (Kl : Nat → Int32) (Kd : Nat → Int32) (To : Int32) (Tt : Nat → Int32) (Td : Nat → Int32) (Go : Int32) (Gg : Nat → Int32) (Ga : Nat → Int32) (Be : Int32) (Bt : Nat → Int32) : Int32 × Int32 × (Nat → Int64) × (Nat → Int32) × Int32 × Int32 × Int32 × Int32 × (Nat → Int32) × (Nat → Int32) × Int32 × (Nat → Int32) := (if De = 0 then ((0 : Int32), (1 : Int32), Ce, Le, De, Ke, To, Go, Gg, Ga, Be, Bt) else (let u3 := L_X6_end_32 201 (0 : Int32) Ce Le Ke (0 : Int32) Gg Ga De Kc Ko Kl Kd; (let u6 := L_X6_end_220 61 (0 : Int32) (0 : Int32) (0 : Int32) Bt De To Tt Td; (u3.1, (0 : Int32), u3.2.1, u3.2.2.1, (De - (1 : Int32)), u3.2.2.2.1, u6.1, u3.2.2.2.2.1, u3.2.2.2.2.2.1, u3.2.2.2.2.2.2, u6.2.2.1, u6.2.2.2))))
def S_X6_end (Th : Int32) (Ce : Nat → Int64) (Le : Nat → Int32) (De : Int32) (Ke : Int32) (Kc : Nat → Int64) (Ko : Nat → Int32) (Kl : Nat → Int32) (Kd : Nat → Int32) (To : Int32) (Tt : Nat → Int32) (Td : Nat → Int32) (Go : Int32) (Gg : Nat → Int32) (Ga : Nat → Int32) (Be : Int32) (Bt : Nat → Int32) : Prop := (De = 0 → (True)) ∧ (¬ De = 0 → ((SL_X6_end_32 201 (0 : Int32) Ce Le Ke (0 : Int32) Gg Ga De Kc Ko Kl Kd) ∧ (∀ u3, u3 = L_X6_end_32 201 (0 : Int32) Ce Le Ke (0 : Int32) Gg Ga De Kc Ko Kl Kd → ((SL_X6_end_220 61 (0 : Int32) (0 : Int32) (0 : Int32) Bt De To Tt Td) ∧ (∀ u6, u6 = L_X6_end_220 61 (0 : Int32) (0 : Int32) (0 : Int32) Bt De To Tt Td → (True))))))
set_option maxHeartbeats 4000000 in
set_option maxRecDepth 100000 in
theorem c_X6_end (l : Launch) (dC : Nat → ClassId) (dI : Nat → Nat → Nat) (cI cJ : ClassId) (ad : Nat → Nat) (hi : fI 17 ad) (sz : Nat) (Th : Int32) (Ce : Nat → Int64) (Le : Nat → Int32) (De : Int32) (Ke : Int32) (Kc : Nat → Int64) (Ko : Nat → Int32) (Kl : Nat → Int32) (Kd : Nat → Int32) (Ug : Nat → Int64) (Ur : Nat → Int64) (Va : Nat → Int64) (To : Int32) (Tt : Nat → Int32) (Td : Nat → Int32) (Go : Int32) (Gg : Nat → Int32) (Ga : Nat → Int32) (Be : Int32) (Bt : Nat → Int32) (Si : Int32) (Te : Nat → Int32) (Bz : Int32) (Bk : Nat → Int32) (hs : S_X6_end Th Ce Le De Ke Kc Ko Kl Kd To Tt Td Go Gg Ga Be Bt) : Met l yX6_end (mW yX6_end cX6_end 4 (some .int)) { frames := 0, cells := 0, slots := 0, locals := 0 } (va_Pc [.ref (ad 0)] (fun U => U.heap.size = sz ∧ va_P (dC, dI) vwCl (wM ad cI cJ Th Ce Le De Ke Kc Ko Kl Kd Ug Ur Va To Tt Td Go Gg Ga Be Bt Si Te Bz Bk) U.heap ∧ va_K (dC, dI) vwCl [(cI, .int), (cJ, .long)] U)) (va_Qi (fun (r : Int32) (_ : Unit) => r = (f_X6_end Th Ce Le De Ke Kc Ko Kl Kd To Tt Td Go Gg Ga Be Bt).1) (fun _ t => va_P (dC, dI) vwCl (wM ad cI cJ ((f_X6_end Th Ce Le De Ke Kc Ko Kl Kd To Tt Td Go Gg Ga Be Bt).2.1) ((f_X6_end Th Ce Le De Ke Kc Ko Kl Kd To Tt Td Go Gg Ga Be Bt).2.2.1) ((f_X6_end Th Ce Le De Ke Kc Ko Kl Kd To Tt Td Go Gg Ga Be Bt).2.2.2.1) ((f_X6_end Th Ce Le De Ke Kc Ko Kl Kd To Tt Td Go Gg Ga Be Bt).2.2.2.2.1) ((f_X6_end Th Ce Le De Ke Kc Ko Kl Kd To Tt Td Go Gg Ga Be Bt).2.2.2.2.2.1) Kc Ko Kl Kd Ug Ur Va ((f_X6_end Th Ce Le De Ke Kc Ko Kl Kd To Tt Td Go Gg Ga Be Bt).2.2.2.2.2.2.1) Tt Td ((f_X6_end Th Ce Le De Ke Kc Ko Kl Kd To Tt Td Go Gg Ga Be Bt).2.2.2.2.2.2.2.1) ((f_X6_end Th Ce Le De Ke Kc Ko Kl Kd To Tt Td Go Gg Ga Be Bt).2.2.2.2.2.2.2.2.1) ((f_X6_end Th Ce Le De Ke Kc Ko Kl Kd To Tt Td Go Gg Ga Be Bt).2.2.2.2.2.2.2.2.2.1) ((f_X6_end Th Ce Le De Ke Kc Ko Kl Kd To Tt Td Go Gg Ga Be Bt).2.2.2.2.2.2.2.2.2.2.1) ((f_X6_end Th Ce Le De Ke Kc Ko Kl Kd To Tt Td Go Gg Ga Be Bt).2.2.2.2.2.2.2.2.2.2.2) Si Te Bz Bk) t.heap) (fA 17 ad sz)) 0 0 (fA 17 ad sz) := by
  refine Met.ofW (cc := cX6_end) (maxL := 4) (ret := (some .int)) (by decide) rfl ?_
  intro p e s m args below meth c s₁ B hml hv
  obtain ⟨rfl, hsz, hP, hK⟩ := hv
  have hx := B.exec
  have hb := B.bytes
  have hr := B.returns
  have hts := mW_hts (atoms_spec (ws := (mW yX6_end cX6_end 4 (some .int))) B.pre)
  have hown : s.vm.findClass RX6 = some m.cls := findClass_of_methodNamed B.named
  have hlocks := B.notSynchronized
  subst hsz
  have hA : ∀ (n : Nat) (q : Nat), s.heap.size ≤ n → n ≤ q → fA 17 ad s.heap.size q := fun n q h1 h2 => Or.inr (Nat.le_trans h1 h2)
  have hS : va_S (fA 17 ad s.heap.size) s.heap s.heap [] := va_S.rf
  have hA : ∀ q, s.heap.size ≤ q → (fA 17 ad s.heap.size) q := fun q h => Or.inr h
  unfold S_X6_end at hs
  have hl := lv_entry ([.ref (ad 0)]) (n := 4) (Nat.le_of_ble_eq_true rfl)
  rw [lg_entry_eq]
  generalize (lg_sl ([.ref (ad 0)]) ++ List.replicate (4 - (lg_sl ([.ref (ad 0)])).length) Slot.unset).toArray = ls at hl ⊢
  have hl : lv_has ls 4 [(0, .ref (ad 0))] := hl
  refine W_gen (fun Q9 hQ9 => ?_)
  refine lv_aload_n hx hb dX6_end_0 rfl (lv_at hl 0 rfl) ?_
  refine lv_aload_n hx hb dX6_end_1 rfl (lv_at hl 0 rfl) ?_
  refine va_get (D := (dC, dI)) (ci := 8) (v := .int De) (C := RX6) (T := TX6) (N := 24) hx hb hts iW_X6 hown hK hP 0 rfl rfl 3 (by decide) (hts _ mF_RX6_91) (fun _ h9 => h9) rfl dX6_end_2 ?_
  refine lv_if_ne (tgt := 12) hx hb dX6_end_5 (by decide) (fun c1 => ?_) (fun c1 => ?_)
  · have hs := hs.2 c1
    refine lv_iconst (v := 0) hx hb dX6_end_12 (by decide) ?_
    refine va_put (D := (dC, dI)) (ci := 8) (v := .int (0 : Int32)) (ty := .int) (C := RX6) (T := TX6) (N := 24) hx hb hts iW_X6 tyX6 tyX6_ok nmX6 hown hK hP (fA_D hi rfl) hS 0 rfl rfl 0 (by decide) (hts _ mF_RX6_61) (fun _ h9 => h9) rfl (by decide +kernel) rfl rfl (Nat.le_of_ble_eq_true rfl) dX6_end_13 (fun H locs hP _ hS => ?_)
    have hP : va_P (dC, dI) vwCl (wM ad cI cJ (0 : Int32) Ce Le De Ke Kc Ko Kl Kd Ug Ur Va To Tt Td Go Gg Ga Be Bt Si Te Bz Bk) H := hP
    refine lv_aload_n hx hb dX6_end_16 rfl (lv_at hl 0 rfl) ?_
    refine va_get (D := (dC, dI)) (ci := 8) (v := .int (0 : Int32)) (C := RX6) (T := TX6) (N := 24) hx hb hts iW_X6 hown hK hP 0 rfl rfl 0 (by decide) (hts _ mF_RX6_61) (fun _ h9 => h9) rfl dX6_end_17 ?_
    refine lv_if_le (tgt := 25) hx hb dX6_end_20 (by decide) (fun c2 => ?_) (fun c2 => ?_)
    · refine lv_aload_n hx hb dX6_end_25 rfl (lv_at hl 0 rfl) ?_
      refine lv_iconst (v := 0) hx hb dX6_end_26 (by decide) ?_
      refine va_put (D := (dC, dI)) (ci := 8) (v := .int (0 : Int32)) (ty := .int) (C := RX6) (T := TX6) (N := 24) hx hb hts iW_X6 tyX6 tyX6_ok nmX6 hown hK hP (fA_D hi rfl) hS 0 rfl rfl 15 (by decide) (hts _ mF_RX6_141) (fun _ h9 => h9) rfl (by decide +kernel) rfl rfl (Nat.le_of_ble_eq_true rfl) dX6_end_27 (fun H locs hP _ hS => ?_)
      have hP : va_P (dC, dI) vwCl (wM ad cI cJ (0 : Int32) Ce Le De Ke Kc Ko Kl Kd Ug Ur Va To Tt Td (0 : Int32) Gg Ga Be Bt Si Te Bz Bk) H := hP
      refine lv_iconst (v := 0) hx hb dX6_end_30 (by decide) ?_
      refine lv_istore_n (lv' := [(1, .int (0 : Int32)), (0, .ref (ad 0))]) hx hb dX6_end_31 rfl hl (by decide) rfl (fun ls hl => ?_)
      obtain ⟨h4, hs⟩ := hs
      obtain ⟨u3, hu3⟩ : ∃ z, z = L_X6_end_32 201 (0 : Int32) Ce Le Ke (0 : Int32) Gg Ga De Kc Ko Kl Kd := ⟨_, rfl⟩
      have hs := hs u3 hu3
      have hex5 : ∀ (H : Heap) (locs : List Loc) (ls : Array Slot), va_P (dC, dI) vwCl (wM ad cI cJ (0 : Int32) u3.2.1 u3.2.2.1 De u3.2.2.2.1 Kc Ko Kl Kd Ug Ur Va To Tt Td u3.2.2.2.2.1 u3.2.2.2.2.2.1 u3.2.2.2.2.2.2 Be Bt Si Te Bz Bk) H → va_S (fA 17 ad s.heap.size) s.heap H locs → lv_has ls 4 [(1, .int u3.1), (0, .ref (ad 0))] → W p l e (headSpec (mW yX6_end cX6_end 4 (some .int)) { frames := 0, cells := 0, slots := 0, locals := 0 }).room s m ([.ref (ad 0)] : List Value).toArray below meth c H locs 0 0 Q9 (F0 m 211 ls []) := by
        intro H locs ls hP hS hl
        refine lv_aload_n hx hb dX6_end_211 rfl (lv_at hl 1 rfl) ?_
        refine lv_iconst (v := 0) hx hb dX6_end_212 (by decide) ?_
        refine va_put (D := (dC, dI)) (ci := 8) (v := .int (0 : Int32)) (ty := .int) (C := RX6) (T := TX6) (N := 24) hx hb hts iW_X6 tyX6 tyX6_ok nmX6 hown hK hP (fA_D hi rfl) hS 0 rfl rfl 18 (by decide) (hts _ mF_RX6_144) (fun _ h9 => h9) rfl (by decide +kernel) rfl rfl (Nat.le_of_ble_eq_true rfl) dX6_end_213 (fun H locs hP _ hS => ?_)
        have hP : va_P (dC, dI) vwCl (wM ad cI cJ (0 : Int32) u3.2.1 u3.2.2.1 De u3.2.2.2.1 Kc Ko Kl Kd Ug Ur Va To Tt Td u3.2.2.2.2.1 u3.2.2.2.2.2.1 u3.2.2.2.2.2.2 (0 : Int32) Bt Si Te Bz Bk) H := hP
        refine lv_iconst (v := 0) hx hb dX6_end_216 (by decide) ?_
        refine lv_istore_n (lv' := [(2, .int (0 : Int32)), (1, .int u3.1), (0, .ref (ad 0))]) hx hb dX6_end_217 rfl hl (by decide) rfl (fun ls hl => ?_)
        refine lv_iconst (v := 0) hx hb dX6_end_218 (by decide) ?_
        refine lv_istore_n (lv' := [(3, .int (0 : Int32)), (2, .int (0 : Int32)), (1, .int u3.1), (0, .ref (ad 0))]) hx hb dX6_end_219 rfl hl (by decide) rfl (fun ls hl => ?_)
        obtain ⟨h7, hs⟩ := hs
        obtain ⟨u6, hu6⟩ : ∃ z, z = L_X6_end_220 61 (0 : Int32) (0 : Int32) (0 : Int32) Bt De To Tt Td := ⟨_, rfl⟩
        have hs := hs u6 hu6
        have hex8 : ∀ (H : Heap) (locs : List Loc) (ls : Array Slot), va_P (dC, dI) vwCl (wM ad cI cJ (0 : Int32) u3.2.1 u3.2.2.1 De u3.2.2.2.1 Kc Ko Kl Kd Ug Ur Va To Tt Td u3.2.2.2.2.1 u3.2.2.2.2.2.1 u3.2.2.2.2.2.2 u6.2.2.1 u6.2.2.2 Si Te Bz Bk) H → va_S (fA 17 ad s.heap.size) s.heap H locs → lv_has ls 4 [(2, .int u6.1), (3, .int u6.2.1), (1, .int u3.1), (0, .ref (ad 0))] → W p l e (headSpec (mW yX6_end cX6_end 4 (some .int)) { frames := 0, cells := 0, slots := 0, locals := 0 }).room s m ([.ref (ad 0)] : List Value).toArray below meth c H locs 0 0 Q9 (F0 m 278 ls []) := by
          intro H locs ls hP hS hl
          refine lv_aload_n hx hb dX6_end_278 rfl (lv_at hl 3 rfl) ?_
          refine lv_iload_n hx hb dX6_end_279 rfl (lv_at hl 0 rfl) ?_
          refine va_put (D := (dC, dI)) (ci := 8) (v := .int u6.1) (ty := .int) (C := RX6) (T := TX6) (N := 24) hx hb hts iW_X6 tyX6 tyX6_ok nmX6 hown hK hP (fA_D hi rfl) hS 0 rfl rfl 12 (by decide) (hts _ mF_RX6_138) (fun _ h9 => h9) rfl (by decide +kernel) rfl rfl (Nat.le_of_ble_eq_true rfl) dX6_end_280 (fun H locs hP _ hS => ?_)
          have hP : va_P (dC, dI) vwCl (wM ad cI cJ (0 : Int32) u3.2.1 u3.2.2.1 De u3.2.2.2.1 Kc Ko Kl Kd Ug Ur Va u6.1 Tt Td u3.2.2.2.2.1 u3.2.2.2.2.2.1 u3.2.2.2.2.2.2 u6.2.2.1 u6.2.2.2 Si Te Bz Bk) H := hP
          refine lv_aload_n hx hb dX6_end_283 rfl (lv_at hl 3 rfl) ?_
          refine lv_dup hx hb dX6_end_284 rfl ?_
          refine va_get (D := (dC, dI)) (ci := 8) (v := .int De) (C := RX6) (T := TX6) (N := 24) hx hb hts iW_X6 hown hK hP 0 rfl rfl 3 (by decide) (hts _ mF_RX6_91) (fun _ h9 => h9) rfl dX6_end_285 ?_
          refine lv_iconst (v := 1) hx hb dX6_end_288 (by decide) ?_
          refine lv_isub hx hb dX6_end_289 ?_
          refine va_put (D := (dC, dI)) (ci := 8) (v := .int (De - (1 : Int32))) (ty := .int) (C := RX6) (T := TX6) (N := 24) hx hb hts iW_X6 tyX6 tyX6_ok nmX6 hown hK hP (fA_D hi rfl) hS 0 rfl rfl 3 (by decide) (hts _ mF_RX6_91) (fun _ h9 => h9) rfl (by decide +kernel) rfl rfl (Nat.le_of_ble_eq_true rfl) dX6_end_290 (fun H locs hP _ hS => ?_)
          have hP : va_P (dC, dI) vwCl (wM ad cI cJ (0 : Int32) u3.2.1 u3.2.2.1 (De - (1 : Int32)) u3.2.2.2.1 Kc Ko Kl Kd Ug Ur Va u6.1 Tt Td u3.2.2.2.2.1 u3.2.2.2.2.2.1 u3.2.2.2.2.2.2 u6.2.2.1 u6.2.2.2 Si Te Bz Bk) H := hP
          refine lv_iload_n hx hb dX6_end_293 rfl (lv_at hl 2 rfl) ?_
          rw [hQ9]
          have hf : f_X6_end Th Ce Le De Ke Kc Ko Kl Kd To Tt Td Go Gg Ga Be Bt = (u3.1, (0 : Int32), u3.2.1, u3.2.2.1, (De - (1 : Int32)), u3.2.2.2.1, u6.1, u3.2.2.2.2.1, u3.2.2.2.2.2.1, u3.2.2.2.2.2.2, u6.2.2.1, u6.2.2.2) := by simp only [f_X6_end, if_neg c1, ← hu3, ← hu6]
          exact W.iret (v := u3.1) hx hb hr (fun t ht hW => ⟨⟨u3.1, (), rfl, by rw [hf], by rw [hf]; show va_P (dC, dI) vwCl _ t.heap; rw [ht]; exact hP⟩, hS.F ht⟩) hS.2.2 dX6_end_294
        have hlp9 : ∀ (n : Nat) (x2v : Int32) (x3v : Int32) (Bev : Int32) (Btv : Nat → Int32) (H : Heap) (locs : List Loc) (ls : Array Slot), SL_X6_end_220 n x2v x3v Bev Btv De To Tt Td → u6 = L_X6_end_220 n x2v x3v Bev Btv De To Tt Td → va_P (dC, dI) vwCl (wM ad cI cJ (0 : Int32) u3.2.1 u3.2.2.1 De u3.2.2.2.1 Kc Ko Kl Kd Ug Ur Va To Tt Td u3.2.2.2.2.1 u3.2.2.2.2.2.1 u3.2.2.2.2.2.2 Bev Btv Si Te Bz Bk) H → va_S (fA 17 ad s.heap.size) s.heap H locs → lv_has ls 4 [(2, .int x2v), (3, .int x3v), (1, .int u3.1), (0, .ref (ad 0))] → W p l e (headSpec (mW yX6_end cX6_end 4 (some .int)) { frames := 0, cells := 0, slots := 0, locals := 0 }).room s m ([.ref (ad 0)] : List Value).toArray below meth c H locs 0 0 Q9 (F0 m 220 ls []) := by
          intro n
          induction n with
          | zero => intro x2v x3v Bev Btv H locs ls hs; rw [SL_X6_end_220] at hs; exact hs.elim
          | succ n ih =>
            intro x2v x3v Bev Btv H locs ls hs hq10 hP hS hl
            rw [SL_X6_end_220] at hs
            refine lv_iload_n hx hb dX6_end_220 rfl (lv_at hl 1 rfl) ?_
            refine lv_aload_n hx hb dX6_end_221 rfl (lv_at hl 3 rfl) ?_
            refine va_get (D := (dC, dI)) (ci := 8) (v := .int To) (C := RX6) (T := TX6) (N := 24) hx hb hts iW_X6 hown hK hP 0 rfl rfl 12 (by decide) (hts _ mF_RX6_138) (fun _ h9 => h9) rfl dX6_end_222 ?_
            refine lv_icmp_ge (tgt := 278) hx hb dX6_end_225 (by decide) (fun c11 => ?_) (fun c11 => ?_)
            · have hs := hs.1 c11
              have he12 : u6 = (x2v, x3v, Bev, Btv) := by rw [hq10, L_X6_end_220]; simp only [if_pos c11, ↓reduceIte]
              exact hex8 _ _ _ (by first | exact hP | (rw [he12]; exact hP)) hS (by first | exact lv_sub hl [0, 1, 2, 3] rfl | (rw [he12]; exact lv_sub hl [0, 1, 2, 3] rfl))
            · have hs := hs.2 c11
              refine lv_aload_n hx hb dX6_end_228 rfl (lv_at hl 3 rfl) ?_
              refine va_get (D := (dC, dI)) (ci := 8) (v := .ref (ad 11)) (C := RX6) (T := TX6) (N := 24) hx hb hts iW_X6 hown hK hP 0 rfl rfl 14 (by decide) (hts _ mF_RX6_41) (fun _ h9 => h9) rfl dX6_end_229 ?_
              refine lv_iload_n hx hb dX6_end_232 rfl (lv_at hl 1 rfl) ?_
              obtain ⟨h13, hs⟩ := hs
              refine va_iald hx hb hK hP 11 0 rfl rfl h13 dX6_end_233 ?_
              refine lv_aload_n hx hb dX6_end_234 rfl (lv_at hl 3 rfl) ?_
              refine va_get (D := (dC, dI)) (ci := 8) (v := .int De) (C := RX6) (T := TX6) (N := 24) hx hb hts iW_X6 hown hK hP 0 rfl rfl 3 (by decide) (hts _ mF_RX6_91) (fun _ h9 => h9) rfl dX6_end_235 ?_
              refine lv_icmp_ne (tgt := 269) hx hb dX6_end_238 (by decide) (fun c14 => ?_) (fun c14 => ?_)
              · have hs := hs.2 c14
                refine lv_iinc (v := (x2v + 1)) (lv' := [(2, .int (x2v + 1)), (3, .int x3v), (1, .int u3.1), (0, .ref (ad 0))]) hx hb dX6_end_269 hl (k := 0) rfl rfl (by decide) rfl (fun ls hl => ?_)
                refine lv_iinc (v := (x3v + 1)) (lv' := [(3, .int (x3v + 1)), (2, .int (x2v + 1)), (1, .int u3.1), (0, .ref (ad 0))]) hx hb dX6_end_272 hl (k := 1) rfl rfl (by decide) rfl (fun ls hl => ?_)
                refine lv_goto (tgt := 220) hx hb dX6_end_275 (by decide) ?_
                exact ih (x2v + 1) (x3v + 1) Bev Btv _ _ _ hs (by rw [hq10, L_X6_end_220]; simp only [if_neg c11, if_neg c14, ↓reduceIte]) hP hS (lv_sub hl [1, 0, 2, 3] rfl)
              · have hs := hs.1 c14
                refine lv_aload_n hx hb dX6_end_241 rfl (lv_at hl 3 rfl) ?_
                refine va_get (D := (dC, dI)) (ci := 8) (v := .ref (ad 14)) (C := RX6) (T := TX6) (N := 24) hx hb hts iW_X6 hown hK hP 0 rfl rfl 19 (by decide) (hts _ mF_RX6_50) (fun _ h9 => h9) rfl dX6_end_242 ?_
                refine lv_aload_n hx hb dX6_end_245 rfl (lv_at hl 3 rfl) ?_
                refine va_get (D := (dC, dI)) (ci := 8) (v := .int Bev) (C := RX6) (T := TX6) (N := 24) hx hb hts iW_X6 hown hK hP 0 rfl rfl 18 (by decide) (hts _ mF_RX6_144) (fun _ h9 => h9) rfl dX6_end_246 ?_
                refine lv_aload_n hx hb dX6_end_249 rfl (lv_at hl 3 rfl) ?_
                refine va_get (D := (dC, dI)) (ci := 8) (v := .ref (ad 10)) (C := RX6) (T := TX6) (N := 24) hx hb hts iW_X6 hown hK hP 0 rfl rfl 13 (by decide) (hts _ mF_RX6_38) (fun _ h9 => h9) rfl dX6_end_250 ?_
                refine lv_iload_n hx hb dX6_end_253 rfl (lv_at hl 1 rfl) ?_
                obtain ⟨h15, hs⟩ := hs
                refine va_iald hx hb hK hP 10 0 rfl rfl h15 dX6_end_254 ?_
                obtain ⟨h16, hs⟩ := hs
                refine va_iast hx hb hK hP (fA_D hi rfl) hS 14 0 rfl rfl h16 dX6_end_255 (fun H locs hP _ hS => ?_)
                have hP : va_P (dC, dI) vwCl (wM ad cI cJ (0 : Int32) u3.2.1 u3.2.2.1 De u3.2.2.2.1 Kc Ko Kl Kd Ug Ur Va To Tt Td u3.2.2.2.2.1 u3.2.2.2.2.2.1 u3.2.2.2.2.2.2 Bev (upd Btv Bev.toNatClampNeg (Tt x3v.toNatClampNeg)) Si Te Bz Bk) H := hP
                refine lv_aload_n hx hb dX6_end_256 rfl (lv_at hl 3 rfl) ?_
                refine lv_dup hx hb dX6_end_257 rfl ?_
                refine va_get (D := (dC, dI)) (ci := 8) (v := .int Bev) (C := RX6) (T := TX6) (N := 24) hx hb hts iW_X6 hown hK hP 0 rfl rfl 18 (by decide) (hts _ mF_RX6_144) (fun _ h9 => h9) rfl dX6_end_258 ?_
                refine lv_iconst (v := 1) hx hb dX6_end_261 (by decide) ?_
                refine lv_iadd hx hb dX6_end_262 ?_
                refine va_put (D := (dC, dI)) (ci := 8) (v := .int (Bev + (1 : Int32))) (ty := .int) (C := RX6) (T := TX6) (N := 24) hx hb hts iW_X6 tyX6 tyX6_ok nmX6 hown hK hP (fA_D hi rfl) hS 0 rfl rfl 18 (by decide) (hts _ mF_RX6_144) (fun _ h9 => h9) rfl (by decide +kernel) rfl rfl (Nat.le_of_ble_eq_true rfl) dX6_end_263 (fun H locs hP _ hS => ?_)
                have hP : va_P (dC, dI) vwCl (wM ad cI cJ (0 : Int32) u3.2.1 u3.2.2.1 De u3.2.2.2.1 Kc Ko Kl Kd Ug Ur Va To Tt Td u3.2.2.2.2.1 u3.2.2.2.2.2.1 u3.2.2.2.2.2.2 (Bev + (1 : Int32)) (upd Btv Bev.toNatClampNeg (Tt x3v.toNatClampNeg)) Si Te Bz Bk) H := hP
                refine lv_goto (tgt := 272) hx hb dX6_end_266 (by decide) ?_
                refine lv_iinc (v := (x3v + 1)) (lv' := [(3, .int (x3v + 1)), (2, .int x2v), (1, .int u3.1), (0, .ref (ad 0))]) hx hb dX6_end_272 hl (k := 1) rfl rfl (by decide) rfl (fun ls hl => ?_)
                refine lv_goto (tgt := 220) hx hb dX6_end_275 (by decide) ?_
                exact ih x2v (x3v + 1) (Bev + (1 : Int32)) (upd Btv Bev.toNatClampNeg (Tt x3v.toNatClampNeg)) _ _ _ hs (by rw [hq10, L_X6_end_220]; simp only [if_neg c11, if_pos c14, ↓reduceIte]) hP hS (lv_sub hl [1, 0, 2, 3] rfl)
        exact hlp9 61 (0 : Int32) (0 : Int32) (0 : Int32) Bt _ _ _ h7 hu6 hP hS (lv_sub hl [1, 0, 2, 3] rfl)
      have hlp17 : ∀ (n : Nat) (x1v : Int32) (Cev : Nat → Int64) (Lev : Nat → Int32) (Kev : Int32) (Gov : Int32) (Ggv : Nat → Int32) (Gav : Nat → Int32) (H : Heap) (locs : List Loc) (ls : Array Slot), SL_X6_end_32 n x1v Cev Lev Kev Gov Ggv Gav De Kc Ko Kl Kd → u3 = L_X6_end_32 n x1v Cev Lev Kev Gov Ggv Gav De Kc Ko Kl Kd → va_P (dC, dI) vwCl (wM ad cI cJ (0 : Int32) Cev Lev De Kev Kc Ko Kl Kd Ug Ur Va To Tt Td Gov Ggv Gav Be Bt Si Te Bz Bk) H → va_S (fA 17 ad s.heap.size) s.heap H locs → lv_has ls 4 [(1, .int x1v), (0, .ref (ad 0))] → W p l e (headSpec (mW yX6_end cX6_end 4 (some .int)) { frames := 0, cells := 0, slots := 0, locals := 0 }).room s m ([.ref (ad 0)] : List Value).toArray below meth c H locs 0 0 Q9 (F0 m 32 ls []) := by
        intro n
        induction n with
        | zero => intro x1v Cev Lev Kev Gov Ggv Gav H locs ls hs; rw [SL_X6_end_32] at hs; exact hs.elim
        | succ n ih =>
          intro x1v Cev Lev Kev Gov Ggv Gav H locs ls hs hq18 hP hS hl
          rw [SL_X6_end_32] at hs
          refine lv_aload_n hx hb dX6_end_32 rfl (lv_at hl 1 rfl) ?_
          refine va_get (D := (dC, dI)) (ci := 8) (v := .int Kev) (C := RX6) (T := TX6) (N := 24) hx hb hts iW_X6 hown hK hP 0 rfl rfl 4 (by decide) (hts _ mF_RX6_94) (fun _ h9 => h9) rfl dX6_end_33 ?_
          refine lv_if_le (tgt := 211) hx hb dX6_end_36 (by decide) (fun c19 => ?_) (fun c19 => ?_)
          · have hs := hs.1 c19
            have he20 : u3 = (x1v, Cev, Lev, Kev, Gov, Ggv, Gav) := by rw [hq18, L_X6_end_32]; simp only [if_pos c19, ↓reduceIte]
            exact hex5 _ _ _ (by first | exact hP | (rw [he20]; exact hP)) hS (by first | exact lv_sub hl [0, 1] rfl | (rw [he20]; exact lv_sub hl [0, 1] rfl))
          · have hs := hs.2 c19
            refine lv_aload_n hx hb dX6_end_39 rfl (lv_at hl 1 rfl) ?_
            refine va_get (D := (dC, dI)) (ci := 8) (v := .ref (ad 6)) (C := RX6) (T := TX6) (N := 24) hx hb hts iW_X6 hown hK hP 0 rfl rfl 8 (by decide) (hts _ mF_RX6_26) (fun _ h9 => h9) rfl dX6_end_40 ?_
            refine lv_aload_n hx hb dX6_end_43 rfl (lv_at hl 1 rfl) ?_
            refine va_get (D := (dC, dI)) (ci := 8) (v := .int Kev) (C := RX6) (T := TX6) (N := 24) hx hb hts iW_X6 hown hK hP 0 rfl rfl 4 (by decide) (hts _ mF_RX6_94) (fun _ h9 => h9) rfl dX6_end_44 ?_
            refine lv_iconst (v := 1) hx hb dX6_end_47 (by decide) ?_
            refine lv_isub hx hb dX6_end_48 ?_
            obtain ⟨h21, hs⟩ := hs
            refine va_iald hx hb hK hP 6 0 rfl rfl h21 dX6_end_49 ?_
            refine lv_aload_n hx hb dX6_end_50 rfl (lv_at hl 1 rfl) ?_
            refine va_get (D := (dC, dI)) (ci := 8) (v := .int De) (C := RX6) (T := TX6) (N := 24) hx hb hts iW_X6 hown hK hP 0 rfl rfl 3 (by decide) (hts _ mF_RX6_91) (fun _ h9 => h9) rfl dX6_end_51 ?_
            refine lv_icmp_ne (tgt := 211) hx hb dX6_end_54 (by decide) (fun c22 => ?_) (fun c22 => ?_)
            · have hs := hs.2 c22
              have he23 : u3 = (x1v, Cev, Lev, Kev, Gov, Ggv, Gav) := by rw [hq18, L_X6_end_32]; simp only [if_neg c19, if_neg c22, ↓reduceIte]
              exact hex5 _ _ _ (by first | exact hP | (rw [he23]; exact hP)) hS (by first | exact lv_sub hl [0, 1] rfl | (rw [he23]; exact lv_sub hl [0, 1] rfl))
            · have hs := hs.1 c22
              refine lv_aload_n hx hb dX6_end_57 rfl (lv_at hl 1 rfl) ?_
              refine lv_dup hx hb dX6_end_58 rfl ?_
              refine va_get (D := (dC, dI)) (ci := 8) (v := .int Kev) (C := RX6) (T := TX6) (N := 24) hx hb hts iW_X6 hown hK hP 0 rfl rfl 4 (by decide) (hts _ mF_RX6_94) (fun _ h9 => h9) rfl dX6_end_59 ?_
              refine lv_iconst (v := 1) hx hb dX6_end_62 (by decide) ?_
              refine lv_isub hx hb dX6_end_63 ?_
              refine va_put (D := (dC, dI)) (ci := 8) (v := .int (Kev - (1 : Int32))) (ty := .int) (C := RX6) (T := TX6) (N := 24) hx hb hts iW_X6 tyX6 tyX6_ok nmX6 hown hK hP (fA_D hi rfl) hS 0 rfl rfl 4 (by decide) (hts _ mF_RX6_94) (fun _ h9 => h9) rfl (by decide +kernel) rfl rfl (Nat.le_of_ble_eq_true rfl) dX6_end_64 (fun H locs hP _ hS => ?_)
              have hP : va_P (dC, dI) vwCl (wM ad cI cJ (0 : Int32) Cev Lev De (Kev - (1 : Int32)) Kc Ko Kl Kd Ug Ur Va To Tt Td Gov Ggv Gav Be Bt Si Te Bz Bk) H := hP
              refine lv_aload_n hx hb dX6_end_67 rfl (lv_at hl 1 rfl) ?_
              refine va_get (D := (dC, dI)) (ci := 8) (v := .ref (ad 4)) (C := RX6) (T := TX6) (N := 24) hx hb hts iW_X6 hown hK hP 0 rfl rfl 6 (by decide) (hts _ mF_RX6_20) (fun _ h9 => h9) rfl dX6_end_68 ?_
              refine lv_aload_n hx hb dX6_end_71 rfl (lv_at hl 1 rfl) ?_
              refine va_get (D := (dC, dI)) (ci := 8) (v := .int (Kev - (1 : Int32))) (C := RX6) (T := TX6) (N := 24) hx hb hts iW_X6 hown hK hP 0 rfl rfl 4 (by decide) (hts _ mF_RX6_94) (fun _ h9 => h9) rfl dX6_end_72 ?_
              obtain ⟨h24, hs⟩ := hs
              refine va_iald hx hb hK hP 4 0 rfl rfl h24 dX6_end_75 ?_
              refine lv_istore_n (lv' := [(2, .int (Ko (Kev - (1 : Int32)).toNatClampNeg)), (1, .int x1v), (0, .ref (ad 0))]) hx hb dX6_end_76 rfl hl (by decide) rfl (fun ls hl => ?_)
              refine lv_aload_n hx hb dX6_end_77 rfl (lv_at hl 2 rfl) ?_
              refine va_get (D := (dC, dI)) (ci := 8) (v := .ref (ad 12)) (C := RX6) (T := TX6) (N := 24) hx hb hts iW_X6 hown hK hP 0 rfl rfl 16 (by decide) (hts _ mF_RX6_44) (fun _ h9 => h9) rfl dX6_end_78 ?_
              refine lv_aload_n hx hb dX6_end_81 rfl (lv_at hl 2 rfl) ?_
              refine va_get (D := (dC, dI)) (ci := 8) (v := .int Gov) (C := RX6) (T := TX6) (N := 24) hx hb hts iW_X6 hown hK hP 0 rfl rfl 15 (by decide) (hts _ mF_RX6_141) (fun _ h9 => h9) rfl dX6_end_82 ?_
              refine lv_iload_n hx hb dX6_end_85 rfl (lv_at hl 0 rfl) ?_
              obtain ⟨h25, hs⟩ := hs
              refine va_iast hx hb hK hP (fA_D hi rfl) hS 12 0 rfl rfl h25 dX6_end_86 (fun H locs hP _ hS => ?_)
              have hP : va_P (dC, dI) vwCl (wM ad cI cJ (0 : Int32) Cev Lev De (Kev - (1 : Int32)) Kc Ko Kl Kd Ug Ur Va To Tt Td Gov (upd Ggv Gov.toNatClampNeg (Ko (Kev - (1 : Int32)).toNatClampNeg)) Gav Be Bt Si Te Bz Bk) H := hP
              refine lv_aload_n hx hb dX6_end_87 rfl (lv_at hl 2 rfl) ?_
              refine va_get (D := (dC, dI)) (ci := 8) (v := .ref (ad 13)) (C := RX6) (T := TX6) (N := 24) hx hb hts iW_X6 hown hK hP 0 rfl rfl 17 (by decide) (hts _ mF_RX6_47) (fun _ h9 => h9) rfl dX6_end_88 ?_
              refine lv_aload_n hx hb dX6_end_91 rfl (lv_at hl 2 rfl) ?_
              refine va_get (D := (dC, dI)) (ci := 8) (v := .int Gov) (C := RX6) (T := TX6) (N := 24) hx hb hts iW_X6 hown hK hP 0 rfl rfl 15 (by decide) (hts _ mF_RX6_141) (fun _ h9 => h9) rfl dX6_end_92 ?_
              refine lv_aload_n hx hb dX6_end_95 rfl (lv_at hl 2 rfl) ?_
              refine va_get (D := (dC, dI)) (ci := 8) (v := .ref (ad 2)) (C := RX6) (T := TX6) (N := 24) hx hb hts iW_X6 hown hK hP 0 rfl rfl 2 (by decide) (hts _ mF_RX6_13) (fun _ h9 => h9) rfl dX6_end_96 ?_
              refine lv_iload_n hx hb dX6_end_99 rfl (lv_at hl 0 rfl) ?_
              obtain ⟨h26, hs⟩ := hs
              refine va_iald hx hb hK hP 2 0 rfl rfl h26 dX6_end_100 ?_
              refine lv_if_ne (tgt := 108) hx hb dX6_end_101 (by decide) (fun c27 => ?_) (fun c27 => ?_)
              · have hs := hs.2 c27
                refine lv_iconst (v := 1) hx hb dX6_end_108 (by decide) ?_
                obtain ⟨h28, hs⟩ := hs
                refine va_iast hx hb hK hP (fA_D hi rfl) hS 13 0 rfl rfl h28 dX6_end_109 (fun H locs hP _ hS => ?_)
                have hP : va_P (dC, dI) vwCl (wM ad cI cJ (0 : Int32) Cev Lev De (Kev - (1 : Int32)) Kc Ko Kl Kd Ug Ur Va To Tt Td Gov (upd Ggv Gov.toNatClampNeg (Ko (Kev - (1 : Int32)).toNatClampNeg)) (upd Gav Gov.toNatClampNeg (1 : Int32)) Be Bt Si Te Bz Bk) H := hP
                refine lv_iload_n hx hb dX6_end_110 rfl (lv_at hl 1 rfl) ?_
                refine lv_aload_n hx hb dX6_end_111 rfl (lv_at hl 2 rfl) ?_
                refine va_get (D := (dC, dI)) (ci := 8) (v := .ref (ad 13)) (C := RX6) (T := TX6) (N := 24) hx hb hts iW_X6 hown hK hP 0 rfl rfl 17 (by decide) (hts _ mF_RX6_47) (fun _ h9 => h9) rfl dX6_end_112 ?_
                refine lv_aload_n hx hb dX6_end_115 rfl (lv_at hl 2 rfl) ?_
                refine va_get (D := (dC, dI)) (ci := 8) (v := .int Gov) (C := RX6) (T := TX6) (N := 24) hx hb hts iW_X6 hown hK hP 0 rfl rfl 15 (by decide) (hts _ mF_RX6_141) (fun _ h9 => h9) rfl dX6_end_116 ?_
                obtain ⟨h29, hs⟩ := hs
                refine va_iald hx hb hK hP 13 0 rfl rfl h29 dX6_end_119 ?_
                refine lv_iadd hx hb dX6_end_120 ?_
                refine lv_istore_n (lv' := [(1, .int (x1v + ((upd Gav Gov.toNatClampNeg (1 : Int32)) Gov.toNatClampNeg))), (2, .int (Ko (Kev - (1 : Int32)).toNatClampNeg)), (0, .ref (ad 0))]) hx hb dX6_end_121 rfl hl (by decide) rfl (fun ls hl => ?_)
                refine lv_iconst (v := 0) hx hb dX6_end_122 (by decide) ?_
                refine lv_istore_n (lv' := [(3, .int (0 : Int32)), (1, .int (x1v + ((upd Gav Gov.toNatClampNeg (1 : Int32)) Gov.toNatClampNeg))), (2, .int (Ko (Kev - (1 : Int32)).toNatClampNeg)), (0, .ref (ad 0))]) hx hb dX6_end_123 rfl hl (by decide) rfl (fun ls hl => ?_)
                obtain ⟨h31, hs⟩ := hs
                obtain ⟨u30, hu30⟩ : ∃ z, z = L_X6_end_124 22 (0 : Int32) Cev (Ko (Kev - (1 : Int32)).toNatClampNeg) Lev (Kev - (1 : Int32)) Kc := ⟨_, rfl⟩
                have hs := hs u30 hu30
                have hex32 : ∀ (H : Heap) (locs : List Loc) (ls : Array Slot), va_P (dC, dI) vwCl (wM ad cI cJ (0 : Int32) u30.2 Lev De (Kev - (1 : Int32)) Kc Ko Kl Kd Ug Ur Va To Tt Td Gov (upd Ggv Gov.toNatClampNeg (Ko (Kev - (1 : Int32)).toNatClampNeg)) (upd Gav Gov.toNatClampNeg (1 : Int32)) Be Bt Si Te Bz Bk) H → va_S (fA 17 ad s.heap.size) s.heap H locs → lv_has ls 4 [(3, .int u30.1), (1, .int (x1v + ((upd Gav Gov.toNatClampNeg (1 : Int32)) Gov.toNatClampNeg))), (2, .int (Ko (Kev - (1 : Int32)).toNatClampNeg)), (0, .ref (ad 0))] → W p l e (headSpec (mW yX6_end cX6_end 4 (some .int)) { frames := 0, cells := 0, slots := 0, locals := 0 }).room s m ([.ref (ad 0)] : List Value).toArray below meth c H locs 0 0 Q9 (F0 m 170 ls []) := by
                  intro H locs ls hP hS hl
                  refine lv_aload_n hx hb dX6_end_170 rfl (lv_at hl 3 rfl) ?_
                  refine va_get (D := (dC, dI)) (ci := 8) (v := .ref (ad 2)) (C := RX6) (T := TX6) (N := 24) hx hb hts iW_X6 hown hK hP 0 rfl rfl 2 (by decide) (hts _ mF_RX6_13) (fun _ h9 => h9) rfl dX6_end_171 ?_
                  refine lv_iload_n hx hb dX6_end_174 rfl (lv_at hl 2 rfl) ?_
                  refine lv_aload_n hx hb dX6_end_175 rfl (lv_at hl 3 rfl) ?_
                  refine va_get (D := (dC, dI)) (ci := 8) (v := .ref (ad 2)) (C := RX6) (T := TX6) (N := 24) hx hb hts iW_X6 hown hK hP 0 rfl rfl 2 (by decide) (hts _ mF_RX6_13) (fun _ h9 => h9) rfl dX6_end_176 ?_
                  refine lv_iload_n hx hb dX6_end_179 rfl (lv_at hl 2 rfl) ?_
                  obtain ⟨h33, hs⟩ := hs
                  refine va_iald hx hb hK hP 2 0 rfl rfl h33 dX6_end_180 ?_
                  refine lv_if_ne (tgt := 188) hx hb dX6_end_181 (by decide) (fun c34 => ?_) (fun c34 => ?_)
                  · refine lv_aload_n hx hb dX6_end_188 rfl (lv_at hl 3 rfl) ?_
                    refine va_get (D := (dC, dI)) (ci := 8) (v := .ref (ad 5)) (C := RX6) (T := TX6) (N := 24) hx hb hts iW_X6 hown hK hP 0 rfl rfl 7 (by decide) (hts _ mF_RX6_23) (fun _ h9 => h9) rfl dX6_end_189 ?_
                    refine lv_aload_n hx hb dX6_end_192 rfl (lv_at hl 3 rfl) ?_
                    refine va_get (D := (dC, dI)) (ci := 8) (v := .int (Kev - (1 : Int32))) (C := RX6) (T := TX6) (N := 24) hx hb hts iW_X6 hown hK hP 0 rfl rfl 4 (by decide) (hts _ mF_RX6_94) (fun _ h9 => h9) rfl dX6_end_193 ?_
                    obtain ⟨h35, hs⟩ := hs
                    refine va_iald hx hb hK hP 5 0 rfl rfl h35 dX6_end_196 ?_
                    obtain ⟨h36, hs⟩ := hs
                    refine va_iast hx hb hK hP (fA_D hi rfl) hS 2 0 rfl rfl h36 dX6_end_197 (fun H locs hP _ hS => ?_)
                    have hP : va_P (dC, dI) vwCl (wM ad cI cJ (0 : Int32) u30.2 (upd Lev (Ko (Kev - (1 : Int32)).toNatClampNeg).toNatClampNeg (Kl (Kev - (1 : Int32)).toNatClampNeg)) De (Kev - (1 : Int32)) Kc Ko Kl Kd Ug Ur Va To Tt Td Gov (upd Ggv Gov.toNatClampNeg (Ko (Kev - (1 : Int32)).toNatClampNeg)) (upd Gav Gov.toNatClampNeg (1 : Int32)) Be Bt Si Te Bz Bk) H := hP
                    refine lv_aload_n hx hb dX6_end_198 rfl (lv_at hl 3 rfl) ?_
                    refine lv_dup hx hb dX6_end_199 rfl ?_
                    refine va_get (D := (dC, dI)) (ci := 8) (v := .int Gov) (C := RX6) (T := TX6) (N := 24) hx hb hts iW_X6 hown hK hP 0 rfl rfl 15 (by decide) (hts _ mF_RX6_141) (fun _ h9 => h9) rfl dX6_end_200 ?_
                    refine lv_iconst (v := 1) hx hb dX6_end_203 (by decide) ?_
                    refine lv_iadd hx hb dX6_end_204 ?_
                    refine va_put (D := (dC, dI)) (ci := 8) (v := .int (Gov + (1 : Int32))) (ty := .int) (C := RX6) (T := TX6) (N := 24) hx hb hts iW_X6 tyX6 tyX6_ok nmX6 hown hK hP (fA_D hi rfl) hS 0 rfl rfl 15 (by decide) (hts _ mF_RX6_141) (fun _ h9 => h9) rfl (by decide +kernel) rfl rfl (Nat.le_of_ble_eq_true rfl) dX6_end_205 (fun H locs hP _ hS => ?_)
                    have hP : va_P (dC, dI) vwCl (wM ad cI cJ (0 : Int32) u30.2 (upd Lev (Ko (Kev - (1 : Int32)).toNatClampNeg).toNatClampNeg (Kl (Kev - (1 : Int32)).toNatClampNeg)) De (Kev - (1 : Int32)) Kc Ko Kl Kd Ug Ur Va To Tt Td (Gov + (1 : Int32)) (upd Ggv Gov.toNatClampNeg (Ko (Kev - (1 : Int32)).toNatClampNeg)) (upd Gav Gov.toNatClampNeg (1 : Int32)) Be Bt Si Te Bz Bk) H := hP
                    refine lv_goto (tgt := 32) hx hb dX6_end_208 (by decide) ?_
                    exact ih (x1v + ((upd Gav Gov.toNatClampNeg (1 : Int32)) Gov.toNatClampNeg)) u30.2 (upd Lev (Ko (Kev - (1 : Int32)).toNatClampNeg).toNatClampNeg (Kl (Kev - (1 : Int32)).toNatClampNeg)) (Kev - (1 : Int32)) (Gov + (1 : Int32)) (upd Ggv Gov.toNatClampNeg (Ko (Kev - (1 : Int32)).toNatClampNeg)) (upd Gav Gov.toNatClampNeg (1 : Int32)) _ _ _ hs (by rw [hq18, L_X6_end_32]; simp only [if_neg c19, if_pos c22, if_neg c27, ← hu30, ↓reduceIte]) hP hS (lv_sub hl [1, 3] rfl)
                  · exact absurd c34 c27
                have hlp37 : ∀ (n : Nat) (x3v : Int32) (Cev : Nat → Int64) (H : Heap) (locs : List Loc) (ls : Array Slot), SL_X6_end_124 n x3v Cev (Ko (Kev - (1 : Int32)).toNatClampNeg) Lev (Kev - (1 : Int32)) Kc → u30 = L_X6_end_124 n x3v Cev (Ko (Kev - (1 : Int32)).toNatClampNeg) Lev (Kev - (1 : Int32)) Kc → va_P (dC, dI) vwCl (wM ad cI cJ (0 : Int32) Cev Lev De (Kev - (1 : Int32)) Kc Ko Kl Kd Ug Ur Va To Tt Td Gov (upd Ggv Gov.toNatClampNeg (Ko (Kev - (1 : Int32)).toNatClampNeg)) (upd Gav Gov.toNatClampNeg (1 : Int32)) Be Bt Si Te Bz Bk) H → va_S (fA 17 ad s.heap.size) s.heap H locs → lv_has ls 4 [(3, .int x3v), (1, .int (x1v + ((upd Gav Gov.toNatClampNeg (1 : Int32)) Gov.toNatClampNeg))), (2, .int (Ko (Kev - (1 : Int32)).toNatClampNeg)), (0, .ref (ad 0))] → W p l e (headSpec (mW yX6_end cX6_end 4 (some .int)) { frames := 0, cells := 0, slots := 0, locals := 0 }).room s m ([.ref (ad 0)] : List Value).toArray below meth c H locs 0 0 Q9 (F0 m 124 ls []) := by
                  intro n
                  induction n with
                  | zero => intro x3v Cev H locs ls hs; rw [SL_X6_end_124] at hs; exact hs.elim
                  | succ n ih =>
                    intro x3v Cev H locs ls hs hq38 hP hS hl
                    rw [SL_X6_end_124] at hs
                    refine lv_iload_n hx hb dX6_end_124 rfl (lv_at hl 0 rfl) ?_
                    refine lv_bipush (v := 21) hx hb dX6_end_125 (by decide) ?_
                    refine lv_icmp_ge (tgt := 170) hx hb dX6_end_127 (by decide) (fun c39 => ?_) (fun c39 => ?_)
                    · have hs := hs.1 c39
                      have he40 : u30 = (x3v, Cev) := by rw [hq38, L_X6_end_124]; simp only [if_pos c39, ↓reduceIte]
                      exact hex32 _ _ _ (by first | exact hP | (rw [he40]; exact hP)) hS (by first | exact lv_sub hl [0, 1, 2, 3] rfl | (rw [he40]; exact lv_sub hl [0, 1, 2, 3] rfl))
                    · have hs := hs.2 c39
                      refine lv_aload_n hx hb dX6_end_130 rfl (lv_at hl 3 rfl) ?_
                      refine va_get (D := (dC, dI)) (ci := 8) (v := .ref (ad 2)) (C := RX6) (T := TX6) (N := 24) hx hb hts iW_X6 hown hK hP 0 rfl rfl 2 (by decide) (hts _ mF_RX6_13) (fun _ h9 => h9) rfl dX6_end_131 ?_
                      refine lv_iload_n hx hb dX6_end_134 rfl (lv_at hl 2 rfl) ?_
                      obtain ⟨h41, hs⟩ := hs
                      refine va_iald hx hb hK hP 2 0 rfl rfl h41 dX6_end_135 ?_
                      refine lv_if_eq (tgt := 170) hx hb dX6_end_136 (by decide) (fun c42 => ?_) (fun c42 => ?_)
                      · exact absurd c42 c27
                      · have hs := hs.2 c42
                        refine lv_aload_n hx hb dX6_end_139 rfl (lv_at hl 3 rfl) ?_
                        refine va_get (D := (dC, dI)) (ci := 8) (v := .ref (ad 1)) (C := RX6) (T := TX6) (N := 24) hx hb hts iW_X6 hown hK hP 0 rfl rfl 1 (by decide) (hts _ mF_RX6_7) (fun _ h9 => h9) rfl dX6_end_140 ?_
                        refine lv_bipush (v := 21) hx hb dX6_end_143 (by decide) ?_
                        refine lv_iload_n hx hb dX6_end_145 rfl (lv_at hl 2 rfl) ?_
                        refine lv_imul hx hb dX6_end_146 ?_
                        refine lv_iload_n hx hb dX6_end_147 rfl (lv_at hl 0 rfl) ?_
                        refine lv_iadd hx hb dX6_end_148 ?_
                        refine lv_aload_n hx hb dX6_end_149 rfl (lv_at hl 3 rfl) ?_
                        refine va_get (D := (dC, dI)) (ci := 8) (v := .ref (ad 3)) (C := RX6) (T := TX6) (N := 24) hx hb hts iW_X6 hown hK hP 0 rfl rfl 5 (by decide) (hts _ mF_RX6_17) (fun _ h9 => h9) rfl dX6_end_150 ?_
                        refine lv_bipush (v := 21) hx hb dX6_end_153 (by decide) ?_
                        refine lv_aload_n hx hb dX6_end_155 rfl (lv_at hl 3 rfl) ?_
                        refine va_get (D := (dC, dI)) (ci := 8) (v := .int (Kev - (1 : Int32))) (C := RX6) (T := TX6) (N := 24) hx hb hts iW_X6 hown hK hP 0 rfl rfl 4 (by decide) (hts _ mF_RX6_94) (fun _ h9 => h9) rfl dX6_end_156 ?_
                        refine lv_imul hx hb dX6_end_159 ?_
                        refine lv_iload_n hx hb dX6_end_160 rfl (lv_at hl 0 rfl) ?_
                        refine lv_iadd hx hb dX6_end_161 ?_
                        obtain ⟨h43, hs⟩ := hs
                        refine va_lald hx hb hK hP 3 1 rfl rfl h43 dX6_end_162 ?_
                        obtain ⟨h44, hs⟩ := hs
                        refine va_last hx hb hK hP (fA_D hi rfl) hS 1 1 rfl rfl h44 dX6_end_163 (fun H locs hP _ hS => ?_)
                        have hP : va_P (dC, dI) vwCl (wM ad cI cJ (0 : Int32) (vp_updL Cev (((21 : Int32) * (Ko (Kev - (1 : Int32)).toNatClampNeg)) + x3v).toNatClampNeg (Kc (((21 : Int32) * (Kev - (1 : Int32))) + x3v).toNatClampNeg)) Lev De (Kev - (1 : Int32)) Kc Ko Kl Kd Ug Ur Va To Tt Td Gov (upd Ggv Gov.toNatClampNeg (Ko (Kev - (1 : Int32)).toNatClampNeg)) (upd Gav Gov.toNatClampNeg (1 : Int32)) Be Bt Si Te Bz Bk) H := hP
                        refine lv_iinc (v := (x3v + 1)) (lv' := [(3, .int (x3v + 1)), (1, .int (x1v + ((upd Gav Gov.toNatClampNeg (1 : Int32)) Gov.toNatClampNeg))), (2, .int (Ko (Kev - (1 : Int32)).toNatClampNeg)), (0, .ref (ad 0))]) hx hb dX6_end_164 hl (k := 0) rfl rfl (by decide) rfl (fun ls hl => ?_)
                        refine lv_goto (tgt := 124) hx hb dX6_end_167 (by decide) ?_
                        exact ih (x3v + 1) (vp_updL Cev (((21 : Int32) * (Ko (Kev - (1 : Int32)).toNatClampNeg)) + x3v).toNatClampNeg (Kc (((21 : Int32) * (Kev - (1 : Int32))) + x3v).toNatClampNeg)) _ _ _ hs (by rw [hq38, L_X6_end_124]; simp only [if_neg c39, if_neg c42, ↓reduceIte]) hP hS (lv_sub hl [0, 1, 2, 3] rfl)
                exact hlp37 22 (0 : Int32) Cev _ _ _ h31 hu30 hP hS (lv_sub hl [0, 1, 2, 3] rfl)
              · have hs := hs.1 c27
                refine lv_iconst (v := 0) hx hb dX6_end_104 (by decide) ?_
                refine lv_goto (tgt := 109) hx hb dX6_end_105 (by decide) ?_
                obtain ⟨h45, hs⟩ := hs
                refine va_iast hx hb hK hP (fA_D hi rfl) hS 13 0 rfl rfl h45 dX6_end_109 (fun H locs hP _ hS => ?_)
                have hP : va_P (dC, dI) vwCl (wM ad cI cJ (0 : Int32) Cev Lev De (Kev - (1 : Int32)) Kc Ko Kl Kd Ug Ur Va To Tt Td Gov (upd Ggv Gov.toNatClampNeg (Ko (Kev - (1 : Int32)).toNatClampNeg)) (upd Gav Gov.toNatClampNeg (0 : Int32)) Be Bt Si Te Bz Bk) H := hP
                refine lv_iload_n hx hb dX6_end_110 rfl (lv_at hl 1 rfl) ?_
                refine lv_aload_n hx hb dX6_end_111 rfl (lv_at hl 2 rfl) ?_
                refine va_get (D := (dC, dI)) (ci := 8) (v := .ref (ad 13)) (C := RX6) (T := TX6) (N := 24) hx hb hts iW_X6 hown hK hP 0 rfl rfl 17 (by decide) (hts _ mF_RX6_47) (fun _ h9 => h9) rfl dX6_end_112 ?_
                refine lv_aload_n hx hb dX6_end_115 rfl (lv_at hl 2 rfl) ?_
                refine va_get (D := (dC, dI)) (ci := 8) (v := .int Gov) (C := RX6) (T := TX6) (N := 24) hx hb hts iW_X6 hown hK hP 0 rfl rfl 15 (by decide) (hts _ mF_RX6_141) (fun _ h9 => h9) rfl dX6_end_116 ?_
                obtain ⟨h46, hs⟩ := hs
                refine va_iald hx hb hK hP 13 0 rfl rfl h46 dX6_end_119 ?_
                refine lv_iadd hx hb dX6_end_120 ?_
                refine lv_istore_n (lv' := [(1, .int (x1v + ((upd Gav Gov.toNatClampNeg (0 : Int32)) Gov.toNatClampNeg))), (2, .int (Ko (Kev - (1 : Int32)).toNatClampNeg)), (0, .ref (ad 0))]) hx hb dX6_end_121 rfl hl (by decide) rfl (fun ls hl => ?_)
                refine lv_iconst (v := 0) hx hb dX6_end_122 (by decide) ?_
                refine lv_istore_n (lv' := [(3, .int (0 : Int32)), (1, .int (x1v + ((upd Gav Gov.toNatClampNeg (0 : Int32)) Gov.toNatClampNeg))), (2, .int (Ko (Kev - (1 : Int32)).toNatClampNeg)), (0, .ref (ad 0))]) hx hb dX6_end_123 rfl hl (by decide) rfl (fun ls hl => ?_)
                obtain ⟨h48, hs⟩ := hs
                obtain ⟨u47, hu47⟩ : ∃ z, z = L_X6_end_124 22 (0 : Int32) Cev (Ko (Kev - (1 : Int32)).toNatClampNeg) Lev (Kev - (1 : Int32)) Kc := ⟨_, rfl⟩
                have hs := hs u47 hu47
                have hex49 : ∀ (H : Heap) (locs : List Loc) (ls : Array Slot), va_P (dC, dI) vwCl (wM ad cI cJ (0 : Int32) u47.2 Lev De (Kev - (1 : Int32)) Kc Ko Kl Kd Ug Ur Va To Tt Td Gov (upd Ggv Gov.toNatClampNeg (Ko (Kev - (1 : Int32)).toNatClampNeg)) (upd Gav Gov.toNatClampNeg (0 : Int32)) Be Bt Si Te Bz Bk) H → va_S (fA 17 ad s.heap.size) s.heap H locs → lv_has ls 4 [(3, .int u47.1), (1, .int (x1v + ((upd Gav Gov.toNatClampNeg (0 : Int32)) Gov.toNatClampNeg))), (2, .int (Ko (Kev - (1 : Int32)).toNatClampNeg)), (0, .ref (ad 0))] → W p l e (headSpec (mW yX6_end cX6_end 4 (some .int)) { frames := 0, cells := 0, slots := 0, locals := 0 }).room s m ([.ref (ad 0)] : List Value).toArray below meth c H locs 0 0 Q9 (F0 m 170 ls []) := by
                  intro H locs ls hP hS hl
                  refine lv_aload_n hx hb dX6_end_170 rfl (lv_at hl 3 rfl) ?_
                  refine va_get (D := (dC, dI)) (ci := 8) (v := .ref (ad 2)) (C := RX6) (T := TX6) (N := 24) hx hb hts iW_X6 hown hK hP 0 rfl rfl 2 (by decide) (hts _ mF_RX6_13) (fun _ h9 => h9) rfl dX6_end_171 ?_
                  refine lv_iload_n hx hb dX6_end_174 rfl (lv_at hl 2 rfl) ?_
                  refine lv_aload_n hx hb dX6_end_175 rfl (lv_at hl 3 rfl) ?_
                  refine va_get (D := (dC, dI)) (ci := 8) (v := .ref (ad 2)) (C := RX6) (T := TX6) (N := 24) hx hb hts iW_X6 hown hK hP 0 rfl rfl 2 (by decide) (hts _ mF_RX6_13) (fun _ h9 => h9) rfl dX6_end_176 ?_
                  refine lv_iload_n hx hb dX6_end_179 rfl (lv_at hl 2 rfl) ?_
                  obtain ⟨h50, hs⟩ := hs
                  refine va_iald hx hb hK hP 2 0 rfl rfl h50 dX6_end_180 ?_
                  refine lv_if_ne (tgt := 188) hx hb dX6_end_181 (by decide) (fun c51 => ?_) (fun c51 => ?_)
                  · exact absurd c27 c51
                  · refine lv_iconst (v := 0) hx hb dX6_end_184 (by decide) ?_
                    refine lv_goto (tgt := 197) hx hb dX6_end_185 (by decide) ?_
                    obtain ⟨h52, hs⟩ := hs
                    refine va_iast hx hb hK hP (fA_D hi rfl) hS 2 0 rfl rfl h52 dX6_end_197 (fun H locs hP _ hS => ?_)
                    have hP : va_P (dC, dI) vwCl (wM ad cI cJ (0 : Int32) u47.2 (upd Lev (Ko (Kev - (1 : Int32)).toNatClampNeg).toNatClampNeg (0 : Int32)) De (Kev - (1 : Int32)) Kc Ko Kl Kd Ug Ur Va To Tt Td Gov (upd Ggv Gov.toNatClampNeg (Ko (Kev - (1 : Int32)).toNatClampNeg)) (upd Gav Gov.toNatClampNeg (0 : Int32)) Be Bt Si Te Bz Bk) H := hP
                    refine lv_aload_n hx hb dX6_end_198 rfl (lv_at hl 3 rfl) ?_
                    refine lv_dup hx hb dX6_end_199 rfl ?_
                    refine va_get (D := (dC, dI)) (ci := 8) (v := .int Gov) (C := RX6) (T := TX6) (N := 24) hx hb hts iW_X6 hown hK hP 0 rfl rfl 15 (by decide) (hts _ mF_RX6_141) (fun _ h9 => h9) rfl dX6_end_200 ?_
                    refine lv_iconst (v := 1) hx hb dX6_end_203 (by decide) ?_
                    refine lv_iadd hx hb dX6_end_204 ?_
                    refine va_put (D := (dC, dI)) (ci := 8) (v := .int (Gov + (1 : Int32))) (ty := .int) (C := RX6) (T := TX6) (N := 24) hx hb hts iW_X6 tyX6 tyX6_ok nmX6 hown hK hP (fA_D hi rfl) hS 0 rfl rfl 15 (by decide) (hts _ mF_RX6_141) (fun _ h9 => h9) rfl (by decide +kernel) rfl rfl (Nat.le_of_ble_eq_true rfl) dX6_end_205 (fun H locs hP _ hS => ?_)
                    have hP : va_P (dC, dI) vwCl (wM ad cI cJ (0 : Int32) u47.2 (upd Lev (Ko (Kev - (1 : Int32)).toNatClampNeg).toNatClampNeg (0 : Int32)) De (Kev - (1 : Int32)) Kc Ko Kl Kd Ug Ur Va To Tt Td (Gov + (1 : Int32)) (upd Ggv Gov.toNatClampNeg (Ko (Kev - (1 : Int32)).toNatClampNeg)) (upd Gav Gov.toNatClampNeg (0 : Int32)) Be Bt Si Te Bz Bk) H := hP
                    refine lv_goto (tgt := 32) hx hb dX6_end_208 (by decide) ?_
                    exact ih (x1v + ((upd Gav Gov.toNatClampNeg (0 : Int32)) Gov.toNatClampNeg)) u47.2 (upd Lev (Ko (Kev - (1 : Int32)).toNatClampNeg).toNatClampNeg (0 : Int32)) (Kev - (1 : Int32)) (Gov + (1 : Int32)) (upd Ggv Gov.toNatClampNeg (Ko (Kev - (1 : Int32)).toNatClampNeg)) (upd Gav Gov.toNatClampNeg (0 : Int32)) _ _ _ hs (by rw [hq18, L_X6_end_32]; simp only [if_neg c19, if_pos c22, if_pos c27, ← hu47, ↓reduceIte]) hP hS (lv_sub hl [1, 3] rfl)
                have hlp53 : ∀ (n : Nat) (x3v : Int32) (Cev : Nat → Int64) (H : Heap) (locs : List Loc) (ls : Array Slot), SL_X6_end_124 n x3v Cev (Ko (Kev - (1 : Int32)).toNatClampNeg) Lev (Kev - (1 : Int32)) Kc → u47 = L_X6_end_124 n x3v Cev (Ko (Kev - (1 : Int32)).toNatClampNeg) Lev (Kev - (1 : Int32)) Kc → va_P (dC, dI) vwCl (wM ad cI cJ (0 : Int32) Cev Lev De (Kev - (1 : Int32)) Kc Ko Kl Kd Ug Ur Va To Tt Td Gov (upd Ggv Gov.toNatClampNeg (Ko (Kev - (1 : Int32)).toNatClampNeg)) (upd Gav Gov.toNatClampNeg (0 : Int32)) Be Bt Si Te Bz Bk) H → va_S (fA 17 ad s.heap.size) s.heap H locs → lv_has ls 4 [(3, .int x3v), (1, .int (x1v + ((upd Gav Gov.toNatClampNeg (0 : Int32)) Gov.toNatClampNeg))), (2, .int (Ko (Kev - (1 : Int32)).toNatClampNeg)), (0, .ref (ad 0))] → W p l e (headSpec (mW yX6_end cX6_end 4 (some .int)) { frames := 0, cells := 0, slots := 0, locals := 0 }).room s m ([.ref (ad 0)] : List Value).toArray below meth c H locs 0 0 Q9 (F0 m 124 ls []) := by
                  intro n
                  induction n with
                  | zero => intro x3v Cev H locs ls hs; rw [SL_X6_end_124] at hs; exact hs.elim
                  | succ n ih =>
                    intro x3v Cev H locs ls hs hq54 hP hS hl
                    rw [SL_X6_end_124] at hs
                    refine lv_iload_n hx hb dX6_end_124 rfl (lv_at hl 0 rfl) ?_
                    refine lv_bipush (v := 21) hx hb dX6_end_125 (by decide) ?_
                    refine lv_icmp_ge (tgt := 170) hx hb dX6_end_127 (by decide) (fun c55 => ?_) (fun c55 => ?_)
                    · have hs := hs.1 c55
                      have he56 : u47 = (x3v, Cev) := by rw [hq54, L_X6_end_124]; simp only [if_pos c55, ↓reduceIte]
                      exact hex49 _ _ _ (by first | exact hP | (rw [he56]; exact hP)) hS (by first | exact lv_sub hl [0, 1, 2, 3] rfl | (rw [he56]; exact lv_sub hl [0, 1, 2, 3] rfl))
                    · have hs := hs.2 c55
                      refine lv_aload_n hx hb dX6_end_130 rfl (lv_at hl 3 rfl) ?_
                      refine va_get (D := (dC, dI)) (ci := 8) (v := .ref (ad 2)) (C := RX6) (T := TX6) (N := 24) hx hb hts iW_X6 hown hK hP 0 rfl rfl 2 (by decide) (hts _ mF_RX6_13) (fun _ h9 => h9) rfl dX6_end_131 ?_
                      refine lv_iload_n hx hb dX6_end_134 rfl (lv_at hl 2 rfl) ?_
                      obtain ⟨h57, hs⟩ := hs
                      refine va_iald hx hb hK hP 2 0 rfl rfl h57 dX6_end_135 ?_
                      refine lv_if_eq (tgt := 170) hx hb dX6_end_136 (by decide) (fun c58 => ?_) (fun c58 => ?_)
                      · have hs := hs.1 c58
                        have he59 : u47 = (x3v, Cev) := by rw [hq54, L_X6_end_124]; simp only [if_neg c55, if_pos c58, ↓reduceIte]
                        exact hex49 _ _ _ (by first | exact hP | (rw [he59]; exact hP)) hS (by first | exact lv_sub hl [0, 1, 2, 3] rfl | (rw [he59]; exact lv_sub hl [0, 1, 2, 3] rfl))
                      · exact absurd c27 c58
                exact hlp53 22 (0 : Int32) Cev _ _ _ h48 hu47 hP hS (lv_sub hl [0, 1, 2, 3] rfl)
      exact hlp17 201 (0 : Int32) Ce Le Ke (0 : Int32) Gg Ga _ _ _ h4 hu3 hP hS (lv_sub hl [0, 1] rfl)
    · exact absurd (by decide) c2
  · have hs := hs.1 c1
    refine lv_iconst (v := 1) hx hb dX6_end_8 (by decide) ?_
    refine lv_goto (tgt := 13) hx hb dX6_end_9 (by decide) ?_
    refine va_put (D := (dC, dI)) (ci := 8) (v := .int (1 : Int32)) (ty := .int) (C := RX6) (T := TX6) (N := 24) hx hb hts iW_X6 tyX6 tyX6_ok nmX6 hown hK hP (fA_D hi rfl) hS 0 rfl rfl 0 (by decide) (hts _ mF_RX6_61) (fun _ h9 => h9) rfl (by decide +kernel) rfl rfl (Nat.le_of_ble_eq_true rfl) dX6_end_13 (fun H locs hP _ hS => ?_)
    have hP : va_P (dC, dI) vwCl (wM ad cI cJ (1 : Int32) Ce Le De Ke Kc Ko Kl Kd Ug Ur Va To Tt Td Go Gg Ga Be Bt Si Te Bz Bk) H := hP
    refine lv_aload_n hx hb dX6_end_16 rfl (lv_at hl 0 rfl) ?_
    refine va_get (D := (dC, dI)) (ci := 8) (v := .int (1 : Int32)) (C := RX6) (T := TX6) (N := 24) hx hb hts iW_X6 hown hK hP 0 rfl rfl 0 (by decide) (hts _ mF_RX6_61) (fun _ h9 => h9) rfl dX6_end_17 ?_
    refine lv_if_le (tgt := 25) hx hb dX6_end_20 (by decide) (fun c60 => ?_) (fun c60 => ?_)
    · exact absurd c60 (by decide)
    · refine lv_iconst (v := 0) hx hb dX6_end_23 (by decide) ?_
      rw [hQ9]
      have hf : f_X6_end Th Ce Le De Ke Kc Ko Kl Kd To Tt Td Go Gg Ga Be Bt = ((0 : Int32), (1 : Int32), Ce, Le, De, Ke, To, Go, Gg, Ga, Be, Bt) := by simp only [f_X6_end, if_pos c1]
      exact W.iret (v := (0 : Int32)) hx hb hr (fun t ht hW => ⟨⟨(0 : Int32), (), rfl, by rw [hf], by rw [hf]; show va_P (dC, dI) vwCl _ t.heap; rw [ht]; exact hP⟩, hS.F ht⟩) hS.2.2 dX6_end_24
theorem q_X6_end {p : Program} {l : Launch} {e : Env} {R : Room} {s : State} {m : MethodId} {args : Array Value} {below : List Frame} {meth : Method} {c : Code} {H : Heap} {locs : List Loc} {cells slots : Nat} {Q : State → Prop} {pc : Nat} {ls : Array Slot} {rest : List Value} {cc : ByteArray} {nL idx : Nat} {own : String} {A0 : Nat → Prop} {dC : Nat → ClassId} {dI : Nat → Nat → Nat} {cI cJ : ClassId} {ad : Nat → Nat} {Th : Int32} {Ce : Nat → Int64} {Le : Nat → Int32} {De : Int32} {Ke : Int32} {Kc : Nat → Int64} {Ko : Nat → Int32} {Kl : Nat → Int32} {Kd : Nat → Int32} {Ug : Nat → Int64} {Ur : Nat → Int64} {Va : Nat → Int64} {To : Int32} {Tt : Nat → Int32} {Td : Nat → Int32} {Go : Int32} {Gg : Nat → Int32} {Ga : Nat → Int32} {Be : Int32} {Bt : Nat → Int32} {Si : Int32} {Te : Nat → Int32} {Bz : Int32} {Bk : Nat → Int32} (hx : p.tables.exec = Jvm.exec) (hb : c.code = cc) (hml : c.maxLocals = nL) (hown : s.vm.findClass own = some m.cls) (hts : ∀ w ∈ bigW, w.before args s = true) (hlk : Cond.methodLink own idx yX6_end ∈ bigW) (hR : 1 ≤ R.frames ∧ 23 ≤ R.locals) (hf : cells + 0 ≤ R.cells ∧ slots + 0 ≤ R.slots) (hz : ls.size = nL) (hw : (rest.map fun v => v.category).sum ≤ 8) (hS : va_S A0 s.heap H locs) (hd : decode cc pc = .ok (.invokevirtual idx, 3)) (hA : ∀ q, fA 17 ad H.size q → A0 q) (hi : fI 17 ad) (hK : va_K (dC, dI) vwCl [(cI, .int), (cJ, .long)] s) (hP : va_P (dC, dI) vwCl (wM ad cI cJ Th Ce Le De Ke Kc Ko Kl Kd Ug Ur Va To Tt Td Go Gg Ga Be Bt Si Te Bz Bk) H) (hs : S_X6_end Th Ce Le De Ke Kc Ko Kl Kd To Tt Td Go Gg Ga Be Bt)  (u : Int32 × Int32 × (Nat → Int64) × (Nat → Int32) × Int32 × Int32 × Int32 × Int32 × (Nat → Int32) × (Nat → Int32) × Int32 × (Nat → Int32)) (hu : u = f_X6_end Th Ce Le De Ke Kc Ko Kl Kd To Tt Td Go Gg Ga Be Bt) (k : ∀ (H1 : Heap) (locs1 : List Loc), va_P (dC, dI) vwCl (wM ad cI cJ u.2.1 u.2.2.1 u.2.2.2.1 u.2.2.2.2.1 u.2.2.2.2.2.1 Kc Ko Kl Kd Ug Ur Va u.2.2.2.2.2.2.1 Tt Td u.2.2.2.2.2.2.2.1 u.2.2.2.2.2.2.2.2.1 u.2.2.2.2.2.2.2.2.2.1 u.2.2.2.2.2.2.2.2.2.2.1 u.2.2.2.2.2.2.2.2.2.2.2 Si Te Bz Bk) H1 → va_S A0 s.heap H1 locs1 → W p l e R s m args below meth c H1 locs1 (cells + 0) (slots + 0) Q (F0 m (pc + 3) ls (.int u.1 :: rest))) : W p l e R s m args below meth c H locs cells slots Q (F0 m pc ls (.ref (ad 0) :: rest)) := by
  subst hu
  exact va_calli (va_runV (As := []) (rest := rest) ⟨hx, hb, hml, hown, hts⟩ (c_X6_end l dC dI cI cJ ad hi H.size Th Ce Le De Ke Kc Ko Kl Kd Ug Ur Va To Tt Td Go Gg Ga Be Bt Si Te Bz Bk hs) (kV 0 hts hlk mI_X6_end mN_RX6 mY_X6_end mV_X6_end rfl rfl (by decide +kernel) hR) ⟨fun a U g mk q => ⟨q.1, q.2.1, q.2.2.1, va_K.moved (u := U) (U := U.calling g mk a) (Vm.Alike.refl U.vm) q.2.2.2⟩, va_recv hK hP (ci := 8) (q0 := 0) rfl rfl, fun U hU hW => ⟨rfl, by rw [hU], by rw [hU]; exact hP, va_K.moved hW.alike hK⟩⟩ rfl rfl hz rfl (lv_room hw) hd hf) hS (fun q _ h => hA q h) (fun q h => hA q h) (fun r u t H1 locs1 ht hvm hw9 hB hz1 hk1 hS1 => by
    subst hw9
    exact k H1 locs1 (by rw [← ht]; exact hB) hS1)
theorem qf_X6_end {p : Program} {l : Launch} {e : Env} {R : Room} {s : State} {m : MethodId} {args : Array Value} {below : List Frame} {meth : Method} {c : Code} {H : Heap} {locs : List Loc} {cells slots : Nat} {Q : State → Prop} {pc : Nat} {ls : Array Slot} {rest : List Value} {cc : ByteArray} {nL idx : Nat} {own : String} {A0 : Nat → Prop} {dC : Nat → ClassId} {dI : Nat → Nat → Nat} {cI cJ : ClassId} {ad : Nat → Nat} {Th : Int32} {Ce : Nat → Int64} {Le : Nat → Int32} {De : Int32} {Ke : Int32} {Kc : Nat → Int64} {Ko : Nat → Int32} {Kl : Nat → Int32} {Kd : Nat → Int32} {Ug : Nat → Int64} {Ur : Nat → Int64} {Va : Nat → Int64} {To : Int32} {Tt : Nat → Int32} {Td : Nat → Int32} {Go : Int32} {Gg : Nat → Int32} {Ga : Nat → Int32} {Be : Int32} {Bt : Nat → Int32} {Si : Int32} {Te : Nat → Int32} {Bz : Int32} {Bk : Nat → Int32} (hx : p.tables.exec = Jvm.exec) (hb : c.code = cc) (hml : c.maxLocals = nL) (hown : s.vm.findClass own = some m.cls) (hts : ∀ w ∈ bigW, w.before args s = true) (hlk : Cond.methodLink own idx yX6_end ∈ bigW) (hR : 1 ≤ R.frames ∧ 23 ≤ R.locals) (hf : cells + 0 ≤ R.cells ∧ slots + 0 ≤ R.slots) (hz : ls.size = nL) (hw : (rest.map fun v => v.category).sum ≤ 8) (hS : va_S A0 s.heap H locs) (hd : decode cc pc = .ok (.invokevirtual idx, 3)) (hA : ∀ q, fA 17 ad H.size q → A0 q) (hi : fI 17 ad) (hK : va_K (dC, dI) vwCl [(cI, .int), (cJ, .long)] s) (hP : va_P (dC, dI) vwCl (wM ad cI cJ Th Ce Le De Ke Kc Ko Kl Kd Ug Ur Va To Tt Td Go Gg Ga Be Bt Si Te Bz Bk) H) (hs : S_X6_end Th Ce Le De Ke Kc Ko Kl Kd To Tt Td Go Gg Ga Be Bt)  (u : Int32 × Int32 × (Nat → Int64) × (Nat → Int32) × Int32 × Int32 × Int32 × Int32 × (Nat → Int32) × (Nat → Int32) × Int32 × (Nat → Int32)) (hu : u = f_X6_end Th Ce Le De Ke Kc Ko Kl Kd To Tt Td Go Gg Ga Be Bt) (k : ∀ (H1 : Heap) (locs1 : List Loc), va_P (dC, dI) vwCl (wM ad cI cJ u.2.1 u.2.2.1 u.2.2.2.1 u.2.2.2.2.1 u.2.2.2.2.2.1 Kc Ko Kl Kd Ug Ur Va u.2.2.2.2.2.2.1 Tt Td u.2.2.2.2.2.2.2.1 u.2.2.2.2.2.2.2.2.1 u.2.2.2.2.2.2.2.2.2.1 u.2.2.2.2.2.2.2.2.2.2.1 u.2.2.2.2.2.2.2.2.2.2.2 Si Te Bz Bk) H1 → va_S A0 s.heap H1 locs1 → (∀ q : Nat, q < H.size → ¬ fA 17 ad H.size q → H1[q]? = H[q]?) → H.size ≤ H1.size → W p l e R s m args below meth c H1 locs1 (cells + 0) (slots + 0) Q (F0 m (pc + 3) ls (.int u.1 :: rest))) : W p l e R s m args below meth c H locs cells slots Q (F0 m pc ls (.ref (ad 0) :: rest)) := by
  subst hu
  exact va_calli (va_runV (As := []) (rest := rest) ⟨hx, hb, hml, hown, hts⟩ (c_X6_end l dC dI cI cJ ad hi H.size Th Ce Le De Ke Kc Ko Kl Kd Ug Ur Va To Tt Td Go Gg Ga Be Bt Si Te Bz Bk hs) (kV 0 hts hlk mI_X6_end mN_RX6 mY_X6_end mV_X6_end rfl rfl (by decide +kernel) hR) ⟨fun a U g mk q => ⟨q.1, q.2.1, q.2.2.1, va_K.moved (u := U) (U := U.calling g mk a) (Vm.Alike.refl U.vm) q.2.2.2⟩, va_recv hK hP (ci := 8) (q0 := 0) rfl rfl, fun U hU hW => ⟨rfl, by rw [hU], by rw [hU]; exact hP, va_K.moved hW.alike hK⟩⟩ rfl rfl hz rfl (lv_room hw) hd hf) hS (fun q _ h => hA q h) (fun q h => hA q h) (fun r u t H1 locs1 ht hvm hw9 hB hz1 hk1 hS1 => by
    subst hw9
    exact k H1 locs1 (by rw [← ht]; exact hB) hS1 hk1 hz1)

def f_X6_restored (a0 : Int32) (a1 : Int32) (Th : Int32) (Go : Int32) (Gg : Nat → Int32) (Ga : Nat → Int32) : Int32 × Int32 := (if (f_X6_in a0.toInt64 (0 : Int64) (Go.toInt64 - (1 : Int64))) = 0 then ((0 : Int32), (1 : Int32)) else (if (f_X6_in a1.toInt64 (0 : Int64) (2 : Int64)) = 0 then ((0 : Int32), (1 : Int32)) else (if a1 = 0 then (((Gg a0.toNatClampNeg) / (32 : Int32)), (0 : Int32)) else (if a1 = (1 : Int32) then (((Gg a0.toNatClampNeg) - (Gg a0.toNatClampNeg) / (32 : Int32) * (32 : Int32)), (0 : Int32)) else ((Ga a0.toNatClampNeg), (0 : Int32))))))
def S_X6_restored (a0 : Int32) (a1 : Int32) (Th : Int32) (Go : Int32) (Gg : Nat → Int32) (Ga : Nat → Int32) : Prop := ((f_X6_in a0.toInt64 (0 : Int64) (Go.toInt64 - (1 : Int64))) = 0 → (True)) ∧ (¬ (f_X6_in a0.toInt64 (0 : Int64) (Go.toInt64 - (1 : Int64))) = 0 → (((f_X6_in a1.toInt64 (0 : Int64) (2 : Int64)) = 0 → (True)) ∧ (¬ (f_X6_in a1.toInt64 (0 : Int64) (2 : Int64)) = 0 → ((a1 = 0 → ((vp_in a0 200) ∧ (True))) ∧ (¬ a1 = 0 → ((a1 = (1 : Int32) → ((vp_in a0 200) ∧ (True))) ∧ (¬ a1 = (1 : Int32) → ((vp_in a0 200) ∧ (True)))))))))
set_option maxHeartbeats 4000000 in
set_option maxRecDepth 100000 in
theorem c_X6_restored (l : Launch) (dC : Nat → ClassId) (dI : Nat → Nat → Nat) (cI cJ : ClassId) (ad : Nat → Nat) (hi : fI 17 ad) (sz : Nat) (Th : Int32) (Ce : Nat → Int64) (Le : Nat → Int32) (De : Int32) (Ke : Int32) (Kc : Nat → Int64) (Ko : Nat → Int32) (Kl : Nat → Int32) (Kd : Nat → Int32) (Ug : Nat → Int64) (Ur : Nat → Int64) (Va : Nat → Int64) (To : Int32) (Tt : Nat → Int32) (Td : Nat → Int32) (Go : Int32) (Gg : Nat → Int32) (Ga : Nat → Int32) (Be : Int32) (Bt : Nat → Int32) (Si : Int32) (Te : Nat → Int32) (Bz : Int32) (Bk : Nat → Int32) (a0 : Int32) (a1 : Int32) (hs : S_X6_restored a0 a1 Th Go Gg Ga) : Met l yX6_restored (mW yX6_restored cX6_restored 3 (some .int)) { frames := 1, cells := 0, slots := 0, locals := 25 } (va_Pc [.ref (ad 0), .int a0, .int a1] (fun U => U.heap.size = sz ∧ va_P (dC, dI) vwCl (wM ad cI cJ Th Ce Le De Ke Kc Ko Kl Kd Ug Ur Va To Tt Td Go Gg Ga Be Bt Si Te Bz Bk) U.heap ∧ va_K (dC, dI) vwCl [(cI, .int), (cJ, .long)] U)) (va_Qi (fun (r : Int32) (_ : Unit) => r = (f_X6_restored a0 a1 Th Go Gg Ga).1) (fun _ t => va_P (dC, dI) vwCl (wM ad cI cJ ((f_X6_restored a0 a1 Th Go Gg Ga).2) Ce Le De Ke Kc Ko Kl Kd Ug Ur Va To Tt Td Go Gg Ga Be Bt Si Te Bz Bk) t.heap) (fA 17 ad sz)) 0 0 (fA 17 ad sz) := by
  refine Met.ofW (cc := cX6_restored) (maxL := 3) (ret := (some .int)) (by decide) rfl ?_
  intro p e s m args below meth c s₁ B hml hv
  obtain ⟨rfl, hsz, hP, hK⟩ := hv
  have hx := B.exec
  have hb := B.bytes
  have hr := B.returns
  have hts := mW_hts (atoms_spec (ws := (mW yX6_restored cX6_restored 3 (some .int))) B.pre)
  have hown : s.vm.findClass RX6 = some m.cls := findClass_of_methodNamed B.named
  have hlocks := B.notSynchronized
  subst hsz
  have hA : ∀ (n : Nat) (q : Nat), s.heap.size ≤ n → n ≤ q → fA 17 ad s.heap.size q := fun n q h1 h2 => Or.inr (Nat.le_trans h1 h2)
  have hS : va_S (fA 17 ad s.heap.size) s.heap s.heap [] := va_S.rf
  have hA : ∀ q, s.heap.size ≤ q → (fA 17 ad s.heap.size) q := fun q h => Or.inr h
  unfold S_X6_restored at hs
  have hl := lv_entry ([.ref (ad 0), .int a0, .int a1]) (n := 3) (Nat.le_of_ble_eq_true rfl)
  rw [lg_entry_eq]
  generalize (lg_sl ([.ref (ad 0), .int a0, .int a1]) ++ List.replicate (3 - (lg_sl ([.ref (ad 0), .int a0, .int a1])).length) Slot.unset).toArray = ls at hl ⊢
  have hl : lv_has ls 3 [(0, .ref (ad 0)), (1, .int a0), (2, .int a1)] := hl
  refine W_gen (fun Q9 hQ9 => ?_)
  refine lv_aload_n hx hb dX6_restored_0 rfl (lv_at hl 0 rfl) ?_
  refine lv_iload_n hx hb dX6_restored_1 rfl (lv_at hl 1 rfl) ?_
  refine lv_i2l hx hb dX6_restored_2 rfl ?_
  refine lv_lconst (v := 0) hx hb dX6_restored_3 (by decide) ?_
  refine lv_aload_n hx hb dX6_restored_4 rfl (lv_at hl 0 rfl) ?_
  refine va_get (D := (dC, dI)) (ci := 8) (v := .int Go) (C := RX6) (T := TX6) (N := 24) hx hb hts iW_X6 hown hK hP 0 rfl rfl 15 (by decide) (hts _ mF_RX6_141) (fun _ h9 => h9) rfl dX6_restored_5 ?_
  refine lv_i2l hx hb dX6_restored_8 rfl ?_
  refine lv_lconst (v := 1) hx hb dX6_restored_9 (by decide) ?_
  refine lv_lsub hx hb dX6_restored_10 ?_
  refine q_X6_in hx hb hml hown hts mM_RX6_67 ⟨Nat.le_of_ble_eq_true rfl, Nat.le_of_ble_eq_true rfl⟩ ⟨Nat.le_of_ble_eq_true rfl, Nat.le_of_ble_eq_true rfl⟩ hl.1 (Nat.le_of_ble_eq_true rfl) hS dX6_restored_11 hA a0.toInt64 (0 : Int64) (Go.toInt64 - (1 : Int64)) (fun locs hS => ?_)
  refine lv_if_eq (tgt := 33) hx hb dX6_restored_14 (by decide) (fun c1 => ?_) (fun c1 => ?_)
  · have hs := hs.1 c1
    refine lv_iconst (v := 1) hx hb dX6_restored_33 (by decide) ?_
    refine va_put (D := (dC, dI)) (ci := 8) (v := .int (1 : Int32)) (ty := .int) (C := RX6) (T := TX6) (N := 24) hx hb hts iW_X6 tyX6 tyX6_ok nmX6 hown hK hP (fA_D hi rfl) hS 0 rfl rfl 0 (by decide) (hts _ mF_RX6_61) (fun _ h9 => h9) rfl (by decide +kernel) rfl rfl (Nat.le_of_ble_eq_true rfl) dX6_restored_34 (fun H locs hP _ hS => ?_)
    have hP : va_P (dC, dI) vwCl (wM ad cI cJ (1 : Int32) Ce Le De Ke Kc Ko Kl Kd Ug Ur Va To Tt Td Go Gg Ga Be Bt Si Te Bz Bk) H := hP
    refine lv_aload_n hx hb dX6_restored_37 rfl (lv_at hl 0 rfl) ?_
    refine va_get (D := (dC, dI)) (ci := 8) (v := .int (1 : Int32)) (C := RX6) (T := TX6) (N := 24) hx hb hts iW_X6 hown hK hP 0 rfl rfl 0 (by decide) (hts _ mF_RX6_61) (fun _ h9 => h9) rfl dX6_restored_38 ?_
    refine lv_if_le (tgt := 46) hx hb dX6_restored_41 (by decide) (fun c2 => ?_) (fun c2 => ?_)
    · exact absurd c2 (by decide)
    · refine lv_iconst (v := 0) hx hb dX6_restored_44 (by decide) ?_
      rw [hQ9]
      have hf : f_X6_restored a0 a1 Th Go Gg Ga = ((0 : Int32), (1 : Int32)) := by simp only [f_X6_restored, if_pos c1]
      exact W.iret (v := (0 : Int32)) hx hb hr (fun t ht hW => ⟨⟨(0 : Int32), (), rfl, by rw [hf], by rw [hf]; show va_P (dC, dI) vwCl _ t.heap; rw [ht]; exact hP⟩, hS.F ht⟩) hS.2.2 dX6_restored_45
  · have hs := hs.2 c1
    refine lv_iload_n hx hb dX6_restored_17 rfl (lv_at hl 2 rfl) ?_
    refine lv_i2l hx hb dX6_restored_18 rfl ?_
    refine lv_lconst (v := 0) hx hb dX6_restored_19 (by decide) ?_
    refine lv_ldc2 hx hb hown (hts _ mK_RX6_121) dX6_restored_20 ?_
    refine q_X6_in hx hb hml hown hts mM_RX6_67 ⟨Nat.le_of_ble_eq_true rfl, Nat.le_of_ble_eq_true rfl⟩ ⟨Nat.le_of_ble_eq_true rfl, Nat.le_of_ble_eq_true rfl⟩ hl.1 (Nat.le_of_ble_eq_true rfl) hS dX6_restored_23 hA a1.toInt64 (0 : Int64) (2 : Int64) (fun locs hS => ?_)
    refine lv_if_eq (tgt := 33) hx hb dX6_restored_26 (by decide) (fun c3 => ?_) (fun c3 => ?_)
    · have hs := hs.1 c3
      refine lv_iconst (v := 1) hx hb dX6_restored_33 (by decide) ?_
      refine va_put (D := (dC, dI)) (ci := 8) (v := .int (1 : Int32)) (ty := .int) (C := RX6) (T := TX6) (N := 24) hx hb hts iW_X6 tyX6 tyX6_ok nmX6 hown hK hP (fA_D hi rfl) hS 0 rfl rfl 0 (by decide) (hts _ mF_RX6_61) (fun _ h9 => h9) rfl (by decide +kernel) rfl rfl (Nat.le_of_ble_eq_true rfl) dX6_restored_34 (fun H locs hP _ hS => ?_)
      have hP : va_P (dC, dI) vwCl (wM ad cI cJ (1 : Int32) Ce Le De Ke Kc Ko Kl Kd Ug Ur Va To Tt Td Go Gg Ga Be Bt Si Te Bz Bk) H := hP
      refine lv_aload_n hx hb dX6_restored_37 rfl (lv_at hl 0 rfl) ?_
      refine va_get (D := (dC, dI)) (ci := 8) (v := .int (1 : Int32)) (C := RX6) (T := TX6) (N := 24) hx hb hts iW_X6 hown hK hP 0 rfl rfl 0 (by decide) (hts _ mF_RX6_61) (fun _ h9 => h9) rfl dX6_restored_38 ?_
      refine lv_if_le (tgt := 46) hx hb dX6_restored_41 (by decide) (fun c4 => ?_) (fun c4 => ?_)
      · exact absurd c4 (by decide)
      · refine lv_iconst (v := 0) hx hb dX6_restored_44 (by decide) ?_
        rw [hQ9]
        have hf : f_X6_restored a0 a1 Th Go Gg Ga = ((0 : Int32), (1 : Int32)) := by simp only [f_X6_restored, if_neg c1, if_pos c3]
        exact W.iret (v := (0 : Int32)) hx hb hr (fun t ht hW => ⟨⟨(0 : Int32), (), rfl, by rw [hf], by rw [hf]; show va_P (dC, dI) vwCl _ t.heap; rw [ht]; exact hP⟩, hS.F ht⟩) hS.2.2 dX6_restored_45
    · have hs := hs.2 c3
      refine lv_iconst (v := 0) hx hb dX6_restored_29 (by decide) ?_
      refine lv_goto (tgt := 34) hx hb dX6_restored_30 (by decide) ?_
      refine va_put (D := (dC, dI)) (ci := 8) (v := .int (0 : Int32)) (ty := .int) (C := RX6) (T := TX6) (N := 24) hx hb hts iW_X6 tyX6 tyX6_ok nmX6 hown hK hP (fA_D hi rfl) hS 0 rfl rfl 0 (by decide) (hts _ mF_RX6_61) (fun _ h9 => h9) rfl (by decide +kernel) rfl rfl (Nat.le_of_ble_eq_true rfl) dX6_restored_34 (fun H locs hP _ hS => ?_)
      have hP : va_P (dC, dI) vwCl (wM ad cI cJ (0 : Int32) Ce Le De Ke Kc Ko Kl Kd Ug Ur Va To Tt Td Go Gg Ga Be Bt Si Te Bz Bk) H := hP
      refine lv_aload_n hx hb dX6_restored_37 rfl (lv_at hl 0 rfl) ?_
      refine va_get (D := (dC, dI)) (ci := 8) (v := .int (0 : Int32)) (C := RX6) (T := TX6) (N := 24) hx hb hts iW_X6 hown hK hP 0 rfl rfl 0 (by decide) (hts _ mF_RX6_61) (fun _ h9 => h9) rfl dX6_restored_38 ?_
      refine lv_if_le (tgt := 46) hx hb dX6_restored_41 (by decide) (fun c5 => ?_) (fun c5 => ?_)
      · refine lv_iload_n hx hb dX6_restored_46 rfl (lv_at hl 2 rfl) ?_
        refine lv_if_ne (tgt := 62) hx hb dX6_restored_47 (by decide) (fun c6 => ?_) (fun c6 => ?_)
        · have hs := hs.2 c6
          refine lv_iload_n hx hb dX6_restored_62 rfl (lv_at hl 2 rfl) ?_
          refine lv_iconst (v := 1) hx hb dX6_restored_63 (by decide) ?_
          refine lv_icmp_ne (tgt := 79) hx hb dX6_restored_64 (by decide) (fun c7 => ?_) (fun c7 => ?_)
          · have hs := hs.2 c7
            refine lv_aload_n hx hb dX6_restored_79 rfl (lv_at hl 0 rfl) ?_
            refine va_get (D := (dC, dI)) (ci := 8) (v := .ref (ad 13)) (C := RX6) (T := TX6) (N := 24) hx hb hts iW_X6 hown hK hP 0 rfl rfl 17 (by decide) (hts _ mF_RX6_47) (fun _ h9 => h9) rfl dX6_restored_80 ?_
            refine lv_iload_n hx hb dX6_restored_83 rfl (lv_at hl 1 rfl) ?_
            obtain ⟨h8, hs⟩ := hs
            refine va_iald hx hb hK hP 13 0 rfl rfl h8 dX6_restored_84 ?_
            rw [hQ9]
            have hf : f_X6_restored a0 a1 Th Go Gg Ga = ((Ga a0.toNatClampNeg), (0 : Int32)) := by simp only [f_X6_restored, if_neg c1, if_neg c3, if_neg c6, if_neg c7]
            exact W.iret (v := (Ga a0.toNatClampNeg)) hx hb hr (fun t ht hW => ⟨⟨(Ga a0.toNatClampNeg), (), rfl, by rw [hf], by rw [hf]; show va_P (dC, dI) vwCl _ t.heap; rw [ht]; exact hP⟩, hS.F ht⟩) hS.2.2 dX6_restored_85
          · have hs := hs.1 c7
            refine lv_aload_n hx hb dX6_restored_67 rfl (lv_at hl 0 rfl) ?_
            refine va_get (D := (dC, dI)) (ci := 8) (v := .ref (ad 12)) (C := RX6) (T := TX6) (N := 24) hx hb hts iW_X6 hown hK hP 0 rfl rfl 16 (by decide) (hts _ mF_RX6_44) (fun _ h9 => h9) rfl dX6_restored_68 ?_
            refine lv_iload_n hx hb dX6_restored_71 rfl (lv_at hl 1 rfl) ?_
            obtain ⟨h9, hs⟩ := hs
            refine va_iald hx hb hK hP 12 0 rfl rfl h9 dX6_restored_72 ?_
            refine lv_bipush (v := 32) hx hb dX6_restored_73 (by decide) ?_
            refine lv_irem hx hb dX6_restored_75 (by decide) ?_
            refine lv_goto (tgt := 85) hx hb dX6_restored_76 (by decide) ?_
            rw [hQ9]
            have hf : f_X6_restored a0 a1 Th Go Gg Ga = (((Gg a0.toNatClampNeg) - (Gg a0.toNatClampNeg) / (32 : Int32) * (32 : Int32)), (0 : Int32)) := by simp only [f_X6_restored, if_neg c1, if_neg c3, if_neg c6, if_pos c7]
            exact W.iret (v := ((Gg a0.toNatClampNeg) - (Gg a0.toNatClampNeg) / (32 : Int32) * (32 : Int32))) hx hb hr (fun t ht hW => ⟨⟨((Gg a0.toNatClampNeg) - (Gg a0.toNatClampNeg) / (32 : Int32) * (32 : Int32)), (), rfl, by rw [hf], by rw [hf]; show va_P (dC, dI) vwCl _ t.heap; rw [ht]; exact hP⟩, hS.F ht⟩) hS.2.2 dX6_restored_85
        · have hs := hs.1 c6
          refine lv_aload_n hx hb dX6_restored_50 rfl (lv_at hl 0 rfl) ?_
          refine va_get (D := (dC, dI)) (ci := 8) (v := .ref (ad 12)) (C := RX6) (T := TX6) (N := 24) hx hb hts iW_X6 hown hK hP 0 rfl rfl 16 (by decide) (hts _ mF_RX6_44) (fun _ h9 => h9) rfl dX6_restored_51 ?_
          refine lv_iload_n hx hb dX6_restored_54 rfl (lv_at hl 1 rfl) ?_
          obtain ⟨h10, hs⟩ := hs
          refine va_iald hx hb hK hP 12 0 rfl rfl h10 dX6_restored_55 ?_
          refine lv_bipush (v := 32) hx hb dX6_restored_56 (by decide) ?_
          refine lv_idiv hx hb dX6_restored_58 (by decide) ?_
          refine lv_goto (tgt := 85) hx hb dX6_restored_59 (by decide) ?_
          rw [hQ9]
          have hf : f_X6_restored a0 a1 Th Go Gg Ga = (((Gg a0.toNatClampNeg) / (32 : Int32)), (0 : Int32)) := by simp only [f_X6_restored, if_neg c1, if_neg c3, if_pos c6]
          exact W.iret (v := ((Gg a0.toNatClampNeg) / (32 : Int32))) hx hb hr (fun t ht hW => ⟨⟨((Gg a0.toNatClampNeg) / (32 : Int32)), (), rfl, by rw [hf], by rw [hf]; show va_P (dC, dI) vwCl _ t.heap; rw [ht]; exact hP⟩, hS.F ht⟩) hS.2.2 dX6_restored_85
      · exact absurd (by decide) c5
theorem q_X6_restored {p : Program} {l : Launch} {e : Env} {R : Room} {s : State} {m : MethodId} {args : Array Value} {below : List Frame} {meth : Method} {c : Code} {H : Heap} {locs : List Loc} {cells slots : Nat} {Q : State → Prop} {pc : Nat} {ls : Array Slot} {rest : List Value} {cc : ByteArray} {nL idx : Nat} {own : String} {A0 : Nat → Prop} {dC : Nat → ClassId} {dI : Nat → Nat → Nat} {cI cJ : ClassId} {ad : Nat → Nat} {Th : Int32} {Ce : Nat → Int64} {Le : Nat → Int32} {De : Int32} {Ke : Int32} {Kc : Nat → Int64} {Ko : Nat → Int32} {Kl : Nat → Int32} {Kd : Nat → Int32} {Ug : Nat → Int64} {Ur : Nat → Int64} {Va : Nat → Int64} {To : Int32} {Tt : Nat → Int32} {Td : Nat → Int32} {Go : Int32} {Gg : Nat → Int32} {Ga : Nat → Int32} {Be : Int32} {Bt : Nat → Int32} {Si : Int32} {Te : Nat → Int32} {Bz : Int32} {Bk : Nat → Int32} (hx : p.tables.exec = Jvm.exec) (hb : c.code = cc) (hml : c.maxLocals = nL) (hown : s.vm.findClass own = some m.cls) (hts : ∀ w ∈ bigW, w.before args s = true) (hlk : Cond.methodLink own idx yX6_restored ∈ bigW) (hR : 2 ≤ R.frames ∧ 47 ≤ R.locals) (hf : cells + 0 ≤ R.cells ∧ slots + 0 ≤ R.slots) (hz : ls.size = nL) (hw : (rest.map fun v => v.category).sum ≤ 8) (hS : va_S A0 s.heap H locs) (hd : decode cc pc = .ok (.invokevirtual idx, 3)) (hA : ∀ q, fA 17 ad H.size q → A0 q) (hi : fI 17 ad) (hK : va_K (dC, dI) vwCl [(cI, .int), (cJ, .long)] s) (hP : va_P (dC, dI) vwCl (wM ad cI cJ Th Ce Le De Ke Kc Ko Kl Kd Ug Ur Va To Tt Td Go Gg Ga Be Bt Si Te Bz Bk) H) (a0 : Int32) (a1 : Int32) (hs : S_X6_restored a0 a1 Th Go Gg Ga)  (u : Int32 × Int32) (hu : u = f_X6_restored a0 a1 Th Go Gg Ga) (k : ∀ (H1 : Heap) (locs1 : List Loc), va_P (dC, dI) vwCl (wM ad cI cJ u.2 Ce Le De Ke Kc Ko Kl Kd Ug Ur Va To Tt Td Go Gg Ga Be Bt Si Te Bz Bk) H1 → va_S A0 s.heap H1 locs1 → W p l e R s m args below meth c H1 locs1 (cells + 0) (slots + 0) Q (F0 m (pc + 3) ls (.int u.1 :: rest))) : W p l e R s m args below meth c H locs cells slots Q (F0 m pc ls (.int a1 :: .int a0 :: .ref (ad 0) :: rest)) := by
  subst hu
  exact va_calli (va_runV (As := [.int a0, .int a1]) (rest := rest) ⟨hx, hb, hml, hown, hts⟩ (c_X6_restored l dC dI cI cJ ad hi H.size Th Ce Le De Ke Kc Ko Kl Kd Ug Ur Va To Tt Td Go Gg Ga Be Bt Si Te Bz Bk a0 a1 hs) (kV 2 hts hlk mI_X6_restored mN_RX6 mY_X6_restored mV_X6_restored rfl rfl (by decide +kernel) hR) ⟨fun a U g mk q => ⟨q.1, q.2.1, q.2.2.1, va_K.moved (u := U) (U := U.calling g mk a) (Vm.Alike.refl U.vm) q.2.2.2⟩, va_recv hK hP (ci := 8) (q0 := 0) rfl rfl, fun U hU hW => ⟨rfl, by rw [hU], by rw [hU]; exact hP, va_K.moved hW.alike hK⟩⟩ rfl rfl hz rfl (lv_room hw) hd hf) hS (fun q _ h => hA q h) (fun q h => hA q h) (fun r u t H1 locs1 ht hvm hw9 hB hz1 hk1 hS1 => by
    subst hw9
    exact k H1 locs1 (by rw [← ht]; exact hB) hS1)
theorem qf_X6_restored {p : Program} {l : Launch} {e : Env} {R : Room} {s : State} {m : MethodId} {args : Array Value} {below : List Frame} {meth : Method} {c : Code} {H : Heap} {locs : List Loc} {cells slots : Nat} {Q : State → Prop} {pc : Nat} {ls : Array Slot} {rest : List Value} {cc : ByteArray} {nL idx : Nat} {own : String} {A0 : Nat → Prop} {dC : Nat → ClassId} {dI : Nat → Nat → Nat} {cI cJ : ClassId} {ad : Nat → Nat} {Th : Int32} {Ce : Nat → Int64} {Le : Nat → Int32} {De : Int32} {Ke : Int32} {Kc : Nat → Int64} {Ko : Nat → Int32} {Kl : Nat → Int32} {Kd : Nat → Int32} {Ug : Nat → Int64} {Ur : Nat → Int64} {Va : Nat → Int64} {To : Int32} {Tt : Nat → Int32} {Td : Nat → Int32} {Go : Int32} {Gg : Nat → Int32} {Ga : Nat → Int32} {Be : Int32} {Bt : Nat → Int32} {Si : Int32} {Te : Nat → Int32} {Bz : Int32} {Bk : Nat → Int32} (hx : p.tables.exec = Jvm.exec) (hb : c.code = cc) (hml : c.maxLocals = nL) (hown : s.vm.findClass own = some m.cls) (hts : ∀ w ∈ bigW, w.before args s = true) (hlk : Cond.methodLink own idx yX6_restored ∈ bigW) (hR : 2 ≤ R.frames ∧ 47 ≤ R.locals) (hf : cells + 0 ≤ R.cells ∧ slots + 0 ≤ R.slots) (hz : ls.size = nL) (hw : (rest.map fun v => v.category).sum ≤ 8) (hS : va_S A0 s.heap H locs) (hd : decode cc pc = .ok (.invokevirtual idx, 3)) (hA : ∀ q, fA 17 ad H.size q → A0 q) (hi : fI 17 ad) (hK : va_K (dC, dI) vwCl [(cI, .int), (cJ, .long)] s) (hP : va_P (dC, dI) vwCl (wM ad cI cJ Th Ce Le De Ke Kc Ko Kl Kd Ug Ur Va To Tt Td Go Gg Ga Be Bt Si Te Bz Bk) H) (a0 : Int32) (a1 : Int32) (hs : S_X6_restored a0 a1 Th Go Gg Ga)  (u : Int32 × Int32) (hu : u = f_X6_restored a0 a1 Th Go Gg Ga) (k : ∀ (H1 : Heap) (locs1 : List Loc), va_P (dC, dI) vwCl (wM ad cI cJ u.2 Ce Le De Ke Kc Ko Kl Kd Ug Ur Va To Tt Td Go Gg Ga Be Bt Si Te Bz Bk) H1 → va_S A0 s.heap H1 locs1 → (∀ q : Nat, q < H.size → ¬ fA 17 ad H.size q → H1[q]? = H[q]?) → H.size ≤ H1.size → W p l e R s m args below meth c H1 locs1 (cells + 0) (slots + 0) Q (F0 m (pc + 3) ls (.int u.1 :: rest))) : W p l e R s m args below meth c H locs cells slots Q (F0 m pc ls (.int a1 :: .int a0 :: .ref (ad 0) :: rest)) := by
  subst hu
  exact va_calli (va_runV (As := [.int a0, .int a1]) (rest := rest) ⟨hx, hb, hml, hown, hts⟩ (c_X6_restored l dC dI cI cJ ad hi H.size Th Ce Le De Ke Kc Ko Kl Kd Ug Ur Va To Tt Td Go Gg Ga Be Bt Si Te Bz Bk a0 a1 hs) (kV 2 hts hlk mI_X6_restored mN_RX6 mY_X6_restored mV_X6_restored rfl rfl (by decide +kernel) hR) ⟨fun a U g mk q => ⟨q.1, q.2.1, q.2.2.1, va_K.moved (u := U) (U := U.calling g mk a) (Vm.Alike.refl U.vm) q.2.2.2⟩, va_recv hK hP (ci := 8) (q0 := 0) rfl rfl, fun U hU hW => ⟨rfl, by rw [hU], by rw [hU]; exact hP, va_K.moved hW.alike hK⟩⟩ rfl rfl hz rfl (lv_room hw) hd hf) hS (fun q _ h => hA q h) (fun q h => hA q h) (fun r u t H1 locs1 ht hvm hw9 hB hz1 hk1 hS1 => by
    subst hw9
    exact k H1 locs1 (by rw [← ht]; exact hB) hS1 hk1 hz1)

def f_X6_behind (a0 : Int32) (Th : Int32) (Be : Int32) (Bt : Nat → Int32) : Int32 × Int32 := (if a0 < 0 then ((-1 : Int32), (0 : Int32)) else (if Be ≤ a0 then ((-1 : Int32), (0 : Int32)) else ((Bt a0.toNatClampNeg), (0 : Int32))))
def S_X6_behind (a0 : Int32) (Th : Int32) (Be : Int32) (Bt : Nat → Int32) : Prop := (a0 < 0 → (True)) ∧ (¬ a0 < 0 → ((Be ≤ a0 → (True)) ∧ (¬ Be ≤ a0 → ((vp_in a0 60) ∧ (True)))))
set_option maxHeartbeats 4000000 in
set_option maxRecDepth 100000 in
theorem c_X6_behind (l : Launch) (dC : Nat → ClassId) (dI : Nat → Nat → Nat) (cI cJ : ClassId) (ad : Nat → Nat) (hi : fI 17 ad) (sz : Nat) (Th : Int32) (Ce : Nat → Int64) (Le : Nat → Int32) (De : Int32) (Ke : Int32) (Kc : Nat → Int64) (Ko : Nat → Int32) (Kl : Nat → Int32) (Kd : Nat → Int32) (Ug : Nat → Int64) (Ur : Nat → Int64) (Va : Nat → Int64) (To : Int32) (Tt : Nat → Int32) (Td : Nat → Int32) (Go : Int32) (Gg : Nat → Int32) (Ga : Nat → Int32) (Be : Int32) (Bt : Nat → Int32) (Si : Int32) (Te : Nat → Int32) (Bz : Int32) (Bk : Nat → Int32) (a0 : Int32) (hs : S_X6_behind a0 Th Be Bt) : Met l yX6_behind (mW yX6_behind cX6_behind 2 (some .int)) { frames := 0, cells := 0, slots := 0, locals := 0 } (va_Pc [.ref (ad 0), .int a0] (fun U => U.heap.size = sz ∧ va_P (dC, dI) vwCl (wM ad cI cJ Th Ce Le De Ke Kc Ko Kl Kd Ug Ur Va To Tt Td Go Gg Ga Be Bt Si Te Bz Bk) U.heap ∧ va_K (dC, dI) vwCl [(cI, .int), (cJ, .long)] U)) (va_Qi (fun (r : Int32) (_ : Unit) => r = (f_X6_behind a0 Th Be Bt).1) (fun _ t => va_P (dC, dI) vwCl (wM ad cI cJ ((f_X6_behind a0 Th Be Bt).2) Ce Le De Ke Kc Ko Kl Kd Ug Ur Va To Tt Td Go Gg Ga Be Bt Si Te Bz Bk) t.heap) (fA 17 ad sz)) 0 0 (fA 17 ad sz) := by
  refine Met.ofW (cc := cX6_behind) (maxL := 2) (ret := (some .int)) (by decide) rfl ?_
  intro p e s m args below meth c s₁ B hml hv
  obtain ⟨rfl, hsz, hP, hK⟩ := hv
  have hx := B.exec
  have hb := B.bytes
  have hr := B.returns
  have hts := mW_hts (atoms_spec (ws := (mW yX6_behind cX6_behind 2 (some .int))) B.pre)
  have hown : s.vm.findClass RX6 = some m.cls := findClass_of_methodNamed B.named
  have hlocks := B.notSynchronized
  subst hsz
  have hA : ∀ (n : Nat) (q : Nat), s.heap.size ≤ n → n ≤ q → fA 17 ad s.heap.size q := fun n q h1 h2 => Or.inr (Nat.le_trans h1 h2)
  have hS : va_S (fA 17 ad s.heap.size) s.heap s.heap [] := va_S.rf
  have hA : ∀ q, s.heap.size ≤ q → (fA 17 ad s.heap.size) q := fun q h => Or.inr h
  unfold S_X6_behind at hs
  have hl := lv_entry ([.ref (ad 0), .int a0]) (n := 2) (Nat.le_of_ble_eq_true rfl)
  rw [lg_entry_eq]
  generalize (lg_sl ([.ref (ad 0), .int a0]) ++ List.replicate (2 - (lg_sl ([.ref (ad 0), .int a0])).length) Slot.unset).toArray = ls at hl ⊢
  have hl : lv_has ls 2 [(0, .ref (ad 0)), (1, .int a0)] := hl
  refine W_gen (fun Q9 hQ9 => ?_)
  refine lv_aload_n hx hb dX6_behind_0 rfl (lv_at hl 0 rfl) ?_
  refine lv_iconst (v := 0) hx hb dX6_behind_1 (by decide) ?_
  refine va_put (D := (dC, dI)) (ci := 8) (v := .int (0 : Int32)) (ty := .int) (C := RX6) (T := TX6) (N := 24) hx hb hts iW_X6 tyX6 tyX6_ok nmX6 hown hK hP (fA_D hi rfl) hS 0 rfl rfl 0 (by decide) (hts _ mF_RX6_61) (fun _ h9 => h9) rfl (by decide +kernel) rfl rfl (Nat.le_of_ble_eq_true rfl) dX6_behind_2 (fun H locs hP _ hS => ?_)
  have hP : va_P (dC, dI) vwCl (wM ad cI cJ (0 : Int32) Ce Le De Ke Kc Ko Kl Kd Ug Ur Va To Tt Td Go Gg Ga Be Bt Si Te Bz Bk) H := hP
  refine lv_iload_n hx hb dX6_behind_5 rfl (lv_at hl 1 rfl) ?_
  refine lv_if_lt (tgt := 26) hx hb dX6_behind_6 (by decide) (fun c1 => ?_) (fun c1 => ?_)
  · have hs := hs.1 c1
    refine lv_iconst (v := (-1)) hx hb dX6_behind_26 (by decide) ?_
    rw [hQ9]
    have hf : f_X6_behind a0 Th Be Bt = ((-1 : Int32), (0 : Int32)) := by simp only [f_X6_behind, if_pos c1]
    exact W.iret (v := (-1 : Int32)) hx hb hr (fun t ht hW => ⟨⟨(-1 : Int32), (), rfl, by rw [hf], by rw [hf]; show va_P (dC, dI) vwCl _ t.heap; rw [ht]; exact hP⟩, hS.F ht⟩) hS.2.2 dX6_behind_27
  · have hs := hs.2 c1
    refine lv_iload_n hx hb dX6_behind_9 rfl (lv_at hl 1 rfl) ?_
    refine lv_aload_n hx hb dX6_behind_10 rfl (lv_at hl 0 rfl) ?_
    refine va_get (D := (dC, dI)) (ci := 8) (v := .int Be) (C := RX6) (T := TX6) (N := 24) hx hb hts iW_X6 hown hK hP 0 rfl rfl 18 (by decide) (hts _ mF_RX6_144) (fun _ h9 => h9) rfl dX6_behind_11 ?_
    refine lv_icmp_ge (tgt := 26) hx hb dX6_behind_14 (by decide) (fun c2 => ?_) (fun c2 => ?_)
    · have hs := hs.1 c2
      refine lv_iconst (v := (-1)) hx hb dX6_behind_26 (by decide) ?_
      rw [hQ9]
      have hf : f_X6_behind a0 Th Be Bt = ((-1 : Int32), (0 : Int32)) := by simp only [f_X6_behind, if_neg c1, if_pos c2]
      exact W.iret (v := (-1 : Int32)) hx hb hr (fun t ht hW => ⟨⟨(-1 : Int32), (), rfl, by rw [hf], by rw [hf]; show va_P (dC, dI) vwCl _ t.heap; rw [ht]; exact hP⟩, hS.F ht⟩) hS.2.2 dX6_behind_27
    · have hs := hs.2 c2
      refine lv_aload_n hx hb dX6_behind_17 rfl (lv_at hl 0 rfl) ?_
      refine va_get (D := (dC, dI)) (ci := 8) (v := .ref (ad 14)) (C := RX6) (T := TX6) (N := 24) hx hb hts iW_X6 hown hK hP 0 rfl rfl 19 (by decide) (hts _ mF_RX6_50) (fun _ h9 => h9) rfl dX6_behind_18 ?_
      refine lv_iload_n hx hb dX6_behind_21 rfl (lv_at hl 1 rfl) ?_
      obtain ⟨h3, hs⟩ := hs
      refine va_iald hx hb hK hP 14 0 rfl rfl h3 dX6_behind_22 ?_
      refine lv_goto (tgt := 27) hx hb dX6_behind_23 (by decide) ?_
      rw [hQ9]
      have hf : f_X6_behind a0 Th Be Bt = ((Bt a0.toNatClampNeg), (0 : Int32)) := by simp only [f_X6_behind, if_neg c1, if_neg c2]
      exact W.iret (v := (Bt a0.toNatClampNeg)) hx hb hr (fun t ht hW => ⟨⟨(Bt a0.toNatClampNeg), (), rfl, by rw [hf], by rw [hf]; show va_P (dC, dI) vwCl _ t.heap; rw [ht]; exact hP⟩, hS.F ht⟩) hS.2.2 dX6_behind_27
theorem q_X6_behind {p : Program} {l : Launch} {e : Env} {R : Room} {s : State} {m : MethodId} {args : Array Value} {below : List Frame} {meth : Method} {c : Code} {H : Heap} {locs : List Loc} {cells slots : Nat} {Q : State → Prop} {pc : Nat} {ls : Array Slot} {rest : List Value} {cc : ByteArray} {nL idx : Nat} {own : String} {A0 : Nat → Prop} {dC : Nat → ClassId} {dI : Nat → Nat → Nat} {cI cJ : ClassId} {ad : Nat → Nat} {Th : Int32} {Ce : Nat → Int64} {Le : Nat → Int32} {De : Int32} {Ke : Int32} {Kc : Nat → Int64} {Ko : Nat → Int32} {Kl : Nat → Int32} {Kd : Nat → Int32} {Ug : Nat → Int64} {Ur : Nat → Int64} {Va : Nat → Int64} {To : Int32} {Tt : Nat → Int32} {Td : Nat → Int32} {Go : Int32} {Gg : Nat → Int32} {Ga : Nat → Int32} {Be : Int32} {Bt : Nat → Int32} {Si : Int32} {Te : Nat → Int32} {Bz : Int32} {Bk : Nat → Int32} (hx : p.tables.exec = Jvm.exec) (hb : c.code = cc) (hml : c.maxLocals = nL) (hown : s.vm.findClass own = some m.cls) (hts : ∀ w ∈ bigW, w.before args s = true) (hlk : Cond.methodLink own idx yX6_behind ∈ bigW) (hR : 1 ≤ R.frames ∧ 21 ≤ R.locals) (hf : cells + 0 ≤ R.cells ∧ slots + 0 ≤ R.slots) (hz : ls.size = nL) (hw : (rest.map fun v => v.category).sum ≤ 8) (hS : va_S A0 s.heap H locs) (hd : decode cc pc = .ok (.invokevirtual idx, 3)) (hA : ∀ q, fA 17 ad H.size q → A0 q) (hi : fI 17 ad) (hK : va_K (dC, dI) vwCl [(cI, .int), (cJ, .long)] s) (hP : va_P (dC, dI) vwCl (wM ad cI cJ Th Ce Le De Ke Kc Ko Kl Kd Ug Ur Va To Tt Td Go Gg Ga Be Bt Si Te Bz Bk) H) (a0 : Int32) (hs : S_X6_behind a0 Th Be Bt)  (u : Int32 × Int32) (hu : u = f_X6_behind a0 Th Be Bt) (k : ∀ (H1 : Heap) (locs1 : List Loc), va_P (dC, dI) vwCl (wM ad cI cJ u.2 Ce Le De Ke Kc Ko Kl Kd Ug Ur Va To Tt Td Go Gg Ga Be Bt Si Te Bz Bk) H1 → va_S A0 s.heap H1 locs1 → W p l e R s m args below meth c H1 locs1 (cells + 0) (slots + 0) Q (F0 m (pc + 3) ls (.int u.1 :: rest))) : W p l e R s m args below meth c H locs cells slots Q (F0 m pc ls (.int a0 :: .ref (ad 0) :: rest)) := by
  subst hu
  exact va_calli (va_runV (As := [.int a0]) (rest := rest) ⟨hx, hb, hml, hown, hts⟩ (c_X6_behind l dC dI cI cJ ad hi H.size Th Ce Le De Ke Kc Ko Kl Kd Ug Ur Va To Tt Td Go Gg Ga Be Bt Si Te Bz Bk a0 hs) (kV 1 hts hlk mI_X6_behind mN_RX6 mY_X6_behind mV_X6_behind rfl rfl (by decide +kernel) hR) ⟨fun a U g mk q => ⟨q.1, q.2.1, q.2.2.1, va_K.moved (u := U) (U := U.calling g mk a) (Vm.Alike.refl U.vm) q.2.2.2⟩, va_recv hK hP (ci := 8) (q0 := 0) rfl rfl, fun U hU hW => ⟨rfl, by rw [hU], by rw [hU]; exact hP, va_K.moved hW.alike hK⟩⟩ rfl rfl hz rfl (lv_room hw) hd hf) hS (fun q _ h => hA q h) (fun q h => hA q h) (fun r u t H1 locs1 ht hvm hw9 hB hz1 hk1 hS1 => by
    subst hw9
    exact k H1 locs1 (by rw [← ht]; exact hB) hS1)
theorem qf_X6_behind {p : Program} {l : Launch} {e : Env} {R : Room} {s : State} {m : MethodId} {args : Array Value} {below : List Frame} {meth : Method} {c : Code} {H : Heap} {locs : List Loc} {cells slots : Nat} {Q : State → Prop} {pc : Nat} {ls : Array Slot} {rest : List Value} {cc : ByteArray} {nL idx : Nat} {own : String} {A0 : Nat → Prop} {dC : Nat → ClassId} {dI : Nat → Nat → Nat} {cI cJ : ClassId} {ad : Nat → Nat} {Th : Int32} {Ce : Nat → Int64} {Le : Nat → Int32} {De : Int32} {Ke : Int32} {Kc : Nat → Int64} {Ko : Nat → Int32} {Kl : Nat → Int32} {Kd : Nat → Int32} {Ug : Nat → Int64} {Ur : Nat → Int64} {Va : Nat → Int64} {To : Int32} {Tt : Nat → Int32} {Td : Nat → Int32} {Go : Int32} {Gg : Nat → Int32} {Ga : Nat → Int32} {Be : Int32} {Bt : Nat → Int32} {Si : Int32} {Te : Nat → Int32} {Bz : Int32} {Bk : Nat → Int32} (hx : p.tables.exec = Jvm.exec) (hb : c.code = cc) (hml : c.maxLocals = nL) (hown : s.vm.findClass own = some m.cls) (hts : ∀ w ∈ bigW, w.before args s = true) (hlk : Cond.methodLink own idx yX6_behind ∈ bigW) (hR : 1 ≤ R.frames ∧ 21 ≤ R.locals) (hf : cells + 0 ≤ R.cells ∧ slots + 0 ≤ R.slots) (hz : ls.size = nL) (hw : (rest.map fun v => v.category).sum ≤ 8) (hS : va_S A0 s.heap H locs) (hd : decode cc pc = .ok (.invokevirtual idx, 3)) (hA : ∀ q, fA 17 ad H.size q → A0 q) (hi : fI 17 ad) (hK : va_K (dC, dI) vwCl [(cI, .int), (cJ, .long)] s) (hP : va_P (dC, dI) vwCl (wM ad cI cJ Th Ce Le De Ke Kc Ko Kl Kd Ug Ur Va To Tt Td Go Gg Ga Be Bt Si Te Bz Bk) H) (a0 : Int32) (hs : S_X6_behind a0 Th Be Bt)  (u : Int32 × Int32) (hu : u = f_X6_behind a0 Th Be Bt) (k : ∀ (H1 : Heap) (locs1 : List Loc), va_P (dC, dI) vwCl (wM ad cI cJ u.2 Ce Le De Ke Kc Ko Kl Kd Ug Ur Va To Tt Td Go Gg Ga Be Bt Si Te Bz Bk) H1 → va_S A0 s.heap H1 locs1 → (∀ q : Nat, q < H.size → ¬ fA 17 ad H.size q → H1[q]? = H[q]?) → H.size ≤ H1.size → W p l e R s m args below meth c H1 locs1 (cells + 0) (slots + 0) Q (F0 m (pc + 3) ls (.int u.1 :: rest))) : W p l e R s m args below meth c H locs cells slots Q (F0 m pc ls (.int a0 :: .ref (ad 0) :: rest)) := by
  subst hu
  exact va_calli (va_runV (As := [.int a0]) (rest := rest) ⟨hx, hb, hml, hown, hts⟩ (c_X6_behind l dC dI cI cJ ad hi H.size Th Ce Le De Ke Kc Ko Kl Kd Ug Ur Va To Tt Td Go Gg Ga Be Bt Si Te Bz Bk a0 hs) (kV 1 hts hlk mI_X6_behind mN_RX6 mY_X6_behind mV_X6_behind rfl rfl (by decide +kernel) hR) ⟨fun a U g mk q => ⟨q.1, q.2.1, q.2.2.1, va_K.moved (u := U) (U := U.calling g mk a) (Vm.Alike.refl U.vm) q.2.2.2⟩, va_recv hK hP (ci := 8) (q0 := 0) rfl rfl, fun U hU hW => ⟨rfl, by rw [hU], by rw [hU]; exact hP, va_K.moved hW.alike hK⟩⟩ rfl rfl hz rfl (lv_room hw) hd hf) hS (fun q _ h => hA q h) (fun q h => hA q h) (fun r u t H1 locs1 ht hvm hw9 hB hz1 hk1 hS1 => by
    subst hw9
    exact k H1 locs1 (by rw [← ht]; exact hB) hS1 hk1 hz1)

def f_X6_get (a0 : Int32) (a1 : Int32) (Th : Int32) (Ce : Nat → Int64) : Int64 × Int32 := (if (f_X6_isKind a0) = 0 then ((0 : Int64), (1 : Int32)) else (if (f_X6_isRegister a1) = 0 then ((0 : Int64), (2 : Int32)) else ((Ce ((21 : Int32) * (((32 : Int32) * a0) + a1)).toNatClampNeg), (0 : Int32))))
def S_X6_get (a0 : Int32) (a1 : Int32) (Th : Int32) (Ce : Nat → Int64) : Prop := ((f_X6_isKind a0) = 0 → (True)) ∧ (¬ (f_X6_isKind a0) = 0 → (((f_X6_isRegister a1) = 0 → (True)) ∧ (¬ (f_X6_isRegister a1) = 0 → ((vp_in ((21 : Int32) * (((32 : Int32) * a0) + a1)) 3360) ∧ (True)))))
set_option maxHeartbeats 4000000 in
set_option maxRecDepth 100000 in
theorem c_X6_get (l : Launch) (dC : Nat → ClassId) (dI : Nat → Nat → Nat) (cI cJ : ClassId) (ad : Nat → Nat) (hi : fI 17 ad) (sz : Nat) (Th : Int32) (Ce : Nat → Int64) (Le : Nat → Int32) (De : Int32) (Ke : Int32) (Kc : Nat → Int64) (Ko : Nat → Int32) (Kl : Nat → Int32) (Kd : Nat → Int32) (Ug : Nat → Int64) (Ur : Nat → Int64) (Va : Nat → Int64) (To : Int32) (Tt : Nat → Int32) (Td : Nat → Int32) (Go : Int32) (Gg : Nat → Int32) (Ga : Nat → Int32) (Be : Int32) (Bt : Nat → Int32) (Si : Int32) (Te : Nat → Int32) (Bz : Int32) (Bk : Nat → Int32) (a0 : Int32) (a1 : Int32) (hs : S_X6_get a0 a1 Th Ce) : Met l yX6_get (mW yX6_get cX6_get 3 (some .long)) { frames := 2, cells := 0, slots := 0, locals := 45 } (va_Pc [.ref (ad 0), .int a0, .int a1] (fun U => U.heap.size = sz ∧ va_P (dC, dI) vwCl (wM ad cI cJ Th Ce Le De Ke Kc Ko Kl Kd Ug Ur Va To Tt Td Go Gg Ga Be Bt Si Te Bz Bk) U.heap ∧ va_K (dC, dI) vwCl [(cI, .int), (cJ, .long)] U)) (va_Ql (fun (r : Int64) (_ : Unit) => r = (f_X6_get a0 a1 Th Ce).1) (fun _ t => va_P (dC, dI) vwCl (wM ad cI cJ ((f_X6_get a0 a1 Th Ce).2) Ce Le De Ke Kc Ko Kl Kd Ug Ur Va To Tt Td Go Gg Ga Be Bt Si Te Bz Bk) t.heap) (fA 17 ad sz)) 0 0 (fA 17 ad sz) := by
  refine Met.ofW (cc := cX6_get) (maxL := 3) (ret := (some .long)) (by decide) rfl ?_
  intro p e s m args below meth c s₁ B hml hv
  obtain ⟨rfl, hsz, hP, hK⟩ := hv
  have hx := B.exec
  have hb := B.bytes
  have hr := B.returns
  have hts := mW_hts (atoms_spec (ws := (mW yX6_get cX6_get 3 (some .long))) B.pre)
  have hown : s.vm.findClass RX6 = some m.cls := findClass_of_methodNamed B.named
  have hlocks := B.notSynchronized
  subst hsz
  have hA : ∀ (n : Nat) (q : Nat), s.heap.size ≤ n → n ≤ q → fA 17 ad s.heap.size q := fun n q h1 h2 => Or.inr (Nat.le_trans h1 h2)
  have hS : va_S (fA 17 ad s.heap.size) s.heap s.heap [] := va_S.rf
  have hA : ∀ q, s.heap.size ≤ q → (fA 17 ad s.heap.size) q := fun q h => Or.inr h
  unfold S_X6_get at hs
  have hl := lv_entry ([.ref (ad 0), .int a0, .int a1]) (n := 3) (Nat.le_of_ble_eq_true rfl)
  rw [lg_entry_eq]
  generalize (lg_sl ([.ref (ad 0), .int a0, .int a1]) ++ List.replicate (3 - (lg_sl ([.ref (ad 0), .int a0, .int a1])).length) Slot.unset).toArray = ls at hl ⊢
  have hl : lv_has ls 3 [(0, .ref (ad 0)), (1, .int a0), (2, .int a1)] := hl
  refine W_gen (fun Q9 hQ9 => ?_)
  refine lv_aload_n hx hb dX6_get_0 rfl (lv_at hl 0 rfl) ?_
  refine lv_iload_n hx hb dX6_get_1 rfl (lv_at hl 1 rfl) ?_
  refine q_X6_isKind hx hb hml hown hts mM_RX6_109 ⟨Nat.le_of_ble_eq_true rfl, Nat.le_of_ble_eq_true rfl⟩ ⟨Nat.le_of_ble_eq_true rfl, Nat.le_of_ble_eq_true rfl⟩ hl.1 (Nat.le_of_ble_eq_true rfl) hS dX6_get_2 hA a0 (fun locs hS => ?_)
  refine lv_if_ne (tgt := 12) hx hb dX6_get_5 (by decide) (fun c1 => ?_) (fun c1 => ?_)
  · have hs := hs.2 c1
    refine lv_iload_n hx hb dX6_get_12 rfl (lv_at hl 2 rfl) ?_
    refine q_X6_isRegister hx hb hml hown hts mM_RX6_114 ⟨Nat.le_of_ble_eq_true rfl, Nat.le_of_ble_eq_true rfl⟩ ⟨Nat.le_of_ble_eq_true rfl, Nat.le_of_ble_eq_true rfl⟩ hl.1 (Nat.le_of_ble_eq_true rfl) hS dX6_get_13 hA a1 (fun locs hS => ?_)
    refine lv_if_ne (tgt := 23) hx hb dX6_get_16 (by decide) (fun c2 => ?_) (fun c2 => ?_)
    · have hs := hs.2 c2
      refine lv_iconst (v := 0) hx hb dX6_get_23 (by decide) ?_
      refine va_put (D := (dC, dI)) (ci := 8) (v := .int (0 : Int32)) (ty := .int) (C := RX6) (T := TX6) (N := 24) hx hb hts iW_X6 tyX6 tyX6_ok nmX6 hown hK hP (fA_D hi rfl) hS 0 rfl rfl 0 (by decide) (hts _ mF_RX6_61) (fun _ h9 => h9) rfl (by decide +kernel) rfl rfl (Nat.le_of_ble_eq_true rfl) dX6_get_24 (fun H locs hP _ hS => ?_)
      have hP : va_P (dC, dI) vwCl (wM ad cI cJ (0 : Int32) Ce Le De Ke Kc Ko Kl Kd Ug Ur Va To Tt Td Go Gg Ga Be Bt Si Te Bz Bk) H := hP
      refine lv_aload_n hx hb dX6_get_27 rfl (lv_at hl 0 rfl) ?_
      refine va_get (D := (dC, dI)) (ci := 8) (v := .int (0 : Int32)) (C := RX6) (T := TX6) (N := 24) hx hb hts iW_X6 hown hK hP 0 rfl rfl 0 (by decide) (hts _ mF_RX6_61) (fun _ h9 => h9) rfl dX6_get_28 ?_
      refine lv_if_le (tgt := 38) hx hb dX6_get_31 (by decide) (fun c3 => ?_) (fun c3 => ?_)
      · refine lv_aload_n hx hb dX6_get_38 rfl (lv_at hl 0 rfl) ?_
        refine va_get (D := (dC, dI)) (ci := 8) (v := .ref (ad 1)) (C := RX6) (T := TX6) (N := 24) hx hb hts iW_X6 hown hK hP 0 rfl rfl 1 (by decide) (hts _ mF_RX6_7) (fun _ h9 => h9) rfl dX6_get_39 ?_
        refine lv_bipush (v := 21) hx hb dX6_get_42 (by decide) ?_
        refine lv_bipush (v := 32) hx hb dX6_get_44 (by decide) ?_
        refine lv_iload_n hx hb dX6_get_46 rfl (lv_at hl 1 rfl) ?_
        refine lv_imul hx hb dX6_get_47 ?_
        refine lv_iload_n hx hb dX6_get_48 rfl (lv_at hl 2 rfl) ?_
        refine lv_iadd hx hb dX6_get_49 ?_
        refine lv_imul hx hb dX6_get_50 ?_
        obtain ⟨h4, hs⟩ := hs
        refine va_lald hx hb hK hP 1 1 rfl rfl h4 dX6_get_51 ?_
        rw [hQ9]
        have hf : f_X6_get a0 a1 Th Ce = ((Ce ((21 : Int32) * (((32 : Int32) * a0) + a1)).toNatClampNeg), (0 : Int32)) := by simp only [f_X6_get, if_neg c1, if_neg c2]
        exact W.lret (v := (Ce ((21 : Int32) * (((32 : Int32) * a0) + a1)).toNatClampNeg)) hx hb hr (fun t ht hW => ⟨⟨(Ce ((21 : Int32) * (((32 : Int32) * a0) + a1)).toNatClampNeg), (), rfl, by rw [hf], by rw [hf]; show va_P (dC, dI) vwCl _ t.heap; rw [ht]; exact hP⟩, hS.F ht⟩) hS.2.2 dX6_get_52
      · exact absurd (by decide) c3
    · have hs := hs.1 c2
      refine lv_iconst (v := 2) hx hb dX6_get_19 (by decide) ?_
      refine lv_goto (tgt := 24) hx hb dX6_get_20 (by decide) ?_
      refine va_put (D := (dC, dI)) (ci := 8) (v := .int (2 : Int32)) (ty := .int) (C := RX6) (T := TX6) (N := 24) hx hb hts iW_X6 tyX6 tyX6_ok nmX6 hown hK hP (fA_D hi rfl) hS 0 rfl rfl 0 (by decide) (hts _ mF_RX6_61) (fun _ h9 => h9) rfl (by decide +kernel) rfl rfl (Nat.le_of_ble_eq_true rfl) dX6_get_24 (fun H locs hP _ hS => ?_)
      have hP : va_P (dC, dI) vwCl (wM ad cI cJ (2 : Int32) Ce Le De Ke Kc Ko Kl Kd Ug Ur Va To Tt Td Go Gg Ga Be Bt Si Te Bz Bk) H := hP
      refine lv_aload_n hx hb dX6_get_27 rfl (lv_at hl 0 rfl) ?_
      refine va_get (D := (dC, dI)) (ci := 8) (v := .int (2 : Int32)) (C := RX6) (T := TX6) (N := 24) hx hb hts iW_X6 hown hK hP 0 rfl rfl 0 (by decide) (hts _ mF_RX6_61) (fun _ h9 => h9) rfl dX6_get_28 ?_
      refine lv_if_le (tgt := 38) hx hb dX6_get_31 (by decide) (fun c5 => ?_) (fun c5 => ?_)
      · exact absurd c5 (by decide)
      · refine lv_lconst (v := 0) hx hb dX6_get_34 (by decide) ?_
        refine lv_goto (tgt := 52) hx hb dX6_get_35 (by decide) ?_
        rw [hQ9]
        have hf : f_X6_get a0 a1 Th Ce = ((0 : Int64), (2 : Int32)) := by simp only [f_X6_get, if_neg c1, if_pos c2]
        exact W.lret (v := (0 : Int64)) hx hb hr (fun t ht hW => ⟨⟨(0 : Int64), (), rfl, by rw [hf], by rw [hf]; show va_P (dC, dI) vwCl _ t.heap; rw [ht]; exact hP⟩, hS.F ht⟩) hS.2.2 dX6_get_52
  · have hs := hs.1 c1
    refine lv_iconst (v := 1) hx hb dX6_get_8 (by decide) ?_
    refine lv_goto (tgt := 24) hx hb dX6_get_9 (by decide) ?_
    refine va_put (D := (dC, dI)) (ci := 8) (v := .int (1 : Int32)) (ty := .int) (C := RX6) (T := TX6) (N := 24) hx hb hts iW_X6 tyX6 tyX6_ok nmX6 hown hK hP (fA_D hi rfl) hS 0 rfl rfl 0 (by decide) (hts _ mF_RX6_61) (fun _ h9 => h9) rfl (by decide +kernel) rfl rfl (Nat.le_of_ble_eq_true rfl) dX6_get_24 (fun H locs hP _ hS => ?_)
    have hP : va_P (dC, dI) vwCl (wM ad cI cJ (1 : Int32) Ce Le De Ke Kc Ko Kl Kd Ug Ur Va To Tt Td Go Gg Ga Be Bt Si Te Bz Bk) H := hP
    refine lv_aload_n hx hb dX6_get_27 rfl (lv_at hl 0 rfl) ?_
    refine va_get (D := (dC, dI)) (ci := 8) (v := .int (1 : Int32)) (C := RX6) (T := TX6) (N := 24) hx hb hts iW_X6 hown hK hP 0 rfl rfl 0 (by decide) (hts _ mF_RX6_61) (fun _ h9 => h9) rfl dX6_get_28 ?_
    refine lv_if_le (tgt := 38) hx hb dX6_get_31 (by decide) (fun c6 => ?_) (fun c6 => ?_)
    · exact absurd c6 (by decide)
    · refine lv_lconst (v := 0) hx hb dX6_get_34 (by decide) ?_
      refine lv_goto (tgt := 52) hx hb dX6_get_35 (by decide) ?_
      rw [hQ9]
      have hf : f_X6_get a0 a1 Th Ce = ((0 : Int64), (1 : Int32)) := by simp only [f_X6_get, if_pos c1]
      exact W.lret (v := (0 : Int64)) hx hb hr (fun t ht hW => ⟨⟨(0 : Int64), (), rfl, by rw [hf], by rw [hf]; show va_P (dC, dI) vwCl _ t.heap; rw [ht]; exact hP⟩, hS.F ht⟩) hS.2.2 dX6_get_52
theorem q_X6_get {p : Program} {l : Launch} {e : Env} {R : Room} {s : State} {m : MethodId} {args : Array Value} {below : List Frame} {meth : Method} {c : Code} {H : Heap} {locs : List Loc} {cells slots : Nat} {Q : State → Prop} {pc : Nat} {ls : Array Slot} {rest : List Value} {cc : ByteArray} {nL idx : Nat} {own : String} {A0 : Nat → Prop} {dC : Nat → ClassId} {dI : Nat → Nat → Nat} {cI cJ : ClassId} {ad : Nat → Nat} {Th : Int32} {Ce : Nat → Int64} {Le : Nat → Int32} {De : Int32} {Ke : Int32} {Kc : Nat → Int64} {Ko : Nat → Int32} {Kl : Nat → Int32} {Kd : Nat → Int32} {Ug : Nat → Int64} {Ur : Nat → Int64} {Va : Nat → Int64} {To : Int32} {Tt : Nat → Int32} {Td : Nat → Int32} {Go : Int32} {Gg : Nat → Int32} {Ga : Nat → Int32} {Be : Int32} {Bt : Nat → Int32} {Si : Int32} {Te : Nat → Int32} {Bz : Int32} {Bk : Nat → Int32} (hx : p.tables.exec = Jvm.exec) (hb : c.code = cc) (hml : c.maxLocals = nL) (hown : s.vm.findClass own = some m.cls) (hts : ∀ w ∈ bigW, w.before args s = true) (hlk : Cond.methodLink own idx yX6_get ∈ bigW) (hR : 3 ≤ R.frames ∧ 67 ≤ R.locals) (hf : cells + 0 ≤ R.cells ∧ slots + 0 ≤ R.slots) (hz : ls.size = nL) (hw : (rest.map fun v => v.category).sum ≤ 8) (hS : va_S A0 s.heap H locs) (hd : decode cc pc = .ok (.invokevirtual idx, 3)) (hA : ∀ q, fA 17 ad H.size q → A0 q) (hi : fI 17 ad) (hK : va_K (dC, dI) vwCl [(cI, .int), (cJ, .long)] s) (hP : va_P (dC, dI) vwCl (wM ad cI cJ Th Ce Le De Ke Kc Ko Kl Kd Ug Ur Va To Tt Td Go Gg Ga Be Bt Si Te Bz Bk) H) (a0 : Int32) (a1 : Int32) (hs : S_X6_get a0 a1 Th Ce)  (u : Int64 × Int32) (hu : u = f_X6_get a0 a1 Th Ce) (k : ∀ (H1 : Heap) (locs1 : List Loc), va_P (dC, dI) vwCl (wM ad cI cJ u.2 Ce Le De Ke Kc Ko Kl Kd Ug Ur Va To Tt Td Go Gg Ga Be Bt Si Te Bz Bk) H1 → va_S A0 s.heap H1 locs1 → W p l e R s m args below meth c H1 locs1 (cells + 0) (slots + 0) Q (F0 m (pc + 3) ls (.long u.1 :: rest))) : W p l e R s m args below meth c H locs cells slots Q (F0 m pc ls (.int a1 :: .int a0 :: .ref (ad 0) :: rest)) := by
  subst hu
  exact va_calll (va_runV (As := [.int a0, .int a1]) (rest := rest) ⟨hx, hb, hml, hown, hts⟩ (c_X6_get l dC dI cI cJ ad hi H.size Th Ce Le De Ke Kc Ko Kl Kd Ug Ur Va To Tt Td Go Gg Ga Be Bt Si Te Bz Bk a0 a1 hs) (kV 2 hts hlk mI_X6_get mN_RX6 mY_X6_get mV_X6_get rfl rfl (by decide +kernel) hR) ⟨fun a U g mk q => ⟨q.1, q.2.1, q.2.2.1, va_K.moved (u := U) (U := U.calling g mk a) (Vm.Alike.refl U.vm) q.2.2.2⟩, va_recv hK hP (ci := 8) (q0 := 0) rfl rfl, fun U hU hW => ⟨rfl, by rw [hU], by rw [hU]; exact hP, va_K.moved hW.alike hK⟩⟩ rfl rfl hz rfl (lv_room hw) hd hf) hS (fun q _ h => hA q h) (fun q h => hA q h) (fun r u t H1 locs1 ht hvm hw9 hB hz1 hk1 hS1 => by
    subst hw9
    exact k H1 locs1 (by rw [← ht]; exact hB) hS1)
theorem qf_X6_get {p : Program} {l : Launch} {e : Env} {R : Room} {s : State} {m : MethodId} {args : Array Value} {below : List Frame} {meth : Method} {c : Code} {H : Heap} {locs : List Loc} {cells slots : Nat} {Q : State → Prop} {pc : Nat} {ls : Array Slot} {rest : List Value} {cc : ByteArray} {nL idx : Nat} {own : String} {A0 : Nat → Prop} {dC : Nat → ClassId} {dI : Nat → Nat → Nat} {cI cJ : ClassId} {ad : Nat → Nat} {Th : Int32} {Ce : Nat → Int64} {Le : Nat → Int32} {De : Int32} {Ke : Int32} {Kc : Nat → Int64} {Ko : Nat → Int32} {Kl : Nat → Int32} {Kd : Nat → Int32} {Ug : Nat → Int64} {Ur : Nat → Int64} {Va : Nat → Int64} {To : Int32} {Tt : Nat → Int32} {Td : Nat → Int32} {Go : Int32} {Gg : Nat → Int32} {Ga : Nat → Int32} {Be : Int32} {Bt : Nat → Int32} {Si : Int32} {Te : Nat → Int32} {Bz : Int32} {Bk : Nat → Int32} (hx : p.tables.exec = Jvm.exec) (hb : c.code = cc) (hml : c.maxLocals = nL) (hown : s.vm.findClass own = some m.cls) (hts : ∀ w ∈ bigW, w.before args s = true) (hlk : Cond.methodLink own idx yX6_get ∈ bigW) (hR : 3 ≤ R.frames ∧ 67 ≤ R.locals) (hf : cells + 0 ≤ R.cells ∧ slots + 0 ≤ R.slots) (hz : ls.size = nL) (hw : (rest.map fun v => v.category).sum ≤ 8) (hS : va_S A0 s.heap H locs) (hd : decode cc pc = .ok (.invokevirtual idx, 3)) (hA : ∀ q, fA 17 ad H.size q → A0 q) (hi : fI 17 ad) (hK : va_K (dC, dI) vwCl [(cI, .int), (cJ, .long)] s) (hP : va_P (dC, dI) vwCl (wM ad cI cJ Th Ce Le De Ke Kc Ko Kl Kd Ug Ur Va To Tt Td Go Gg Ga Be Bt Si Te Bz Bk) H) (a0 : Int32) (a1 : Int32) (hs : S_X6_get a0 a1 Th Ce)  (u : Int64 × Int32) (hu : u = f_X6_get a0 a1 Th Ce) (k : ∀ (H1 : Heap) (locs1 : List Loc), va_P (dC, dI) vwCl (wM ad cI cJ u.2 Ce Le De Ke Kc Ko Kl Kd Ug Ur Va To Tt Td Go Gg Ga Be Bt Si Te Bz Bk) H1 → va_S A0 s.heap H1 locs1 → (∀ q : Nat, q < H.size → ¬ fA 17 ad H.size q → H1[q]? = H[q]?) → H.size ≤ H1.size → W p l e R s m args below meth c H1 locs1 (cells + 0) (slots + 0) Q (F0 m (pc + 3) ls (.long u.1 :: rest))) : W p l e R s m args below meth c H locs cells slots Q (F0 m pc ls (.int a1 :: .int a0 :: .ref (ad 0) :: rest)) := by
  subst hu
  exact va_calll (va_runV (As := [.int a0, .int a1]) (rest := rest) ⟨hx, hb, hml, hown, hts⟩ (c_X6_get l dC dI cI cJ ad hi H.size Th Ce Le De Ke Kc Ko Kl Kd Ug Ur Va To Tt Td Go Gg Ga Be Bt Si Te Bz Bk a0 a1 hs) (kV 2 hts hlk mI_X6_get mN_RX6 mY_X6_get mV_X6_get rfl rfl (by decide +kernel) hR) ⟨fun a U g mk q => ⟨q.1, q.2.1, q.2.2.1, va_K.moved (u := U) (U := U.calling g mk a) (Vm.Alike.refl U.vm) q.2.2.2⟩, va_recv hK hP (ci := 8) (q0 := 0) rfl rfl, fun U hU hW => ⟨rfl, by rw [hU], by rw [hU]; exact hP, va_K.moved hW.alike hK⟩⟩ rfl rfl hz rfl (lv_room hw) hd hf) hS (fun q _ h => hA q h) (fun q h => hA q h) (fun r u t H1 locs1 ht hvm hw9 hB hz1 hk1 hS1 => by
    subst hw9
    exact k H1 locs1 (by rw [← ht]; exact hB) hS1 hk1 hz1)

def f_X6_part (a0 : Int32) (a1 : Int32) (Th : Int32) (Ce : Nat → Int64) : Int64 × Int32 := (if (f_X6_isRegister a0) = 0 then ((0 : Int64), (1 : Int32)) else (if (f_X6_in a1.toInt64 (0 : Int64) (4 : Int64)) = 0 then ((0 : Int64), (1 : Int32)) else ((Ce (((21 : Int32) * ((64 : Int32) + a0)) + a1).toNatClampNeg), (0 : Int32))))
def S_X6_part (a0 : Int32) (a1 : Int32) (Th : Int32) (Ce : Nat → Int64) : Prop := ((f_X6_isRegister a0) = 0 → (True)) ∧ (¬ (f_X6_isRegister a0) = 0 → (((f_X6_in a1.toInt64 (0 : Int64) (4 : Int64)) = 0 → (True)) ∧ (¬ (f_X6_in a1.toInt64 (0 : Int64) (4 : Int64)) = 0 → ((vp_in (((21 : Int32) * ((64 : Int32) + a0)) + a1) 3360) ∧ (True)))))
set_option maxHeartbeats 4000000 in
set_option maxRecDepth 100000 in
theorem c_X6_part (l : Launch) (dC : Nat → ClassId) (dI : Nat → Nat → Nat) (cI cJ : ClassId) (ad : Nat → Nat) (hi : fI 17 ad) (sz : Nat) (Th : Int32) (Ce : Nat → Int64) (Le : Nat → Int32) (De : Int32) (Ke : Int32) (Kc : Nat → Int64) (Ko : Nat → Int32) (Kl : Nat → Int32) (Kd : Nat → Int32) (Ug : Nat → Int64) (Ur : Nat → Int64) (Va : Nat → Int64) (To : Int32) (Tt : Nat → Int32) (Td : Nat → Int32) (Go : Int32) (Gg : Nat → Int32) (Ga : Nat → Int32) (Be : Int32) (Bt : Nat → Int32) (Si : Int32) (Te : Nat → Int32) (Bz : Int32) (Bk : Nat → Int32) (a0 : Int32) (a1 : Int32) (hs : S_X6_part a0 a1 Th Ce) : Met l yX6_part (mW yX6_part cX6_part 3 (some .long)) { frames := 2, cells := 0, slots := 0, locals := 45 } (va_Pc [.ref (ad 0), .int a0, .int a1] (fun U => U.heap.size = sz ∧ va_P (dC, dI) vwCl (wM ad cI cJ Th Ce Le De Ke Kc Ko Kl Kd Ug Ur Va To Tt Td Go Gg Ga Be Bt Si Te Bz Bk) U.heap ∧ va_K (dC, dI) vwCl [(cI, .int), (cJ, .long)] U)) (va_Ql (fun (r : Int64) (_ : Unit) => r = (f_X6_part a0 a1 Th Ce).1) (fun _ t => va_P (dC, dI) vwCl (wM ad cI cJ ((f_X6_part a0 a1 Th Ce).2) Ce Le De Ke Kc Ko Kl Kd Ug Ur Va To Tt Td Go Gg Ga Be Bt Si Te Bz Bk) t.heap) (fA 17 ad sz)) 0 0 (fA 17 ad sz) := by
  refine Met.ofW (cc := cX6_part) (maxL := 3) (ret := (some .long)) (by decide) rfl ?_
  intro p e s m args below meth c s₁ B hml hv
  obtain ⟨rfl, hsz, hP, hK⟩ := hv
  have hx := B.exec
  have hb := B.bytes
  have hr := B.returns
  have hts := mW_hts (atoms_spec (ws := (mW yX6_part cX6_part 3 (some .long))) B.pre)
  have hown : s.vm.findClass RX6 = some m.cls := findClass_of_methodNamed B.named
  have hlocks := B.notSynchronized
  subst hsz
  have hA : ∀ (n : Nat) (q : Nat), s.heap.size ≤ n → n ≤ q → fA 17 ad s.heap.size q := fun n q h1 h2 => Or.inr (Nat.le_trans h1 h2)
  have hS : va_S (fA 17 ad s.heap.size) s.heap s.heap [] := va_S.rf
  have hA : ∀ q, s.heap.size ≤ q → (fA 17 ad s.heap.size) q := fun q h => Or.inr h
  unfold S_X6_part at hs
  have hl := lv_entry ([.ref (ad 0), .int a0, .int a1]) (n := 3) (Nat.le_of_ble_eq_true rfl)
  rw [lg_entry_eq]
  generalize (lg_sl ([.ref (ad 0), .int a0, .int a1]) ++ List.replicate (3 - (lg_sl ([.ref (ad 0), .int a0, .int a1])).length) Slot.unset).toArray = ls at hl ⊢
  have hl : lv_has ls 3 [(0, .ref (ad 0)), (1, .int a0), (2, .int a1)] := hl
  refine W_gen (fun Q9 hQ9 => ?_)
  refine lv_aload_n hx hb dX6_part_0 rfl (lv_at hl 0 rfl) ?_
  refine lv_iload_n hx hb dX6_part_1 rfl (lv_at hl 1 rfl) ?_
  refine q_X6_isRegister hx hb hml hown hts mM_RX6_114 ⟨Nat.le_of_ble_eq_true rfl, Nat.le_of_ble_eq_true rfl⟩ ⟨Nat.le_of_ble_eq_true rfl, Nat.le_of_ble_eq_true rfl⟩ hl.1 (Nat.le_of_ble_eq_true rfl) hS dX6_part_2 hA a0 (fun locs hS => ?_)
  refine lv_if_eq (tgt := 24) hx hb dX6_part_5 (by decide) (fun c1 => ?_) (fun c1 => ?_)
  · have hs := hs.1 c1
    refine lv_iconst (v := 1) hx hb dX6_part_24 (by decide) ?_
    refine va_put (D := (dC, dI)) (ci := 8) (v := .int (1 : Int32)) (ty := .int) (C := RX6) (T := TX6) (N := 24) hx hb hts iW_X6 tyX6 tyX6_ok nmX6 hown hK hP (fA_D hi rfl) hS 0 rfl rfl 0 (by decide) (hts _ mF_RX6_61) (fun _ h9 => h9) rfl (by decide +kernel) rfl rfl (Nat.le_of_ble_eq_true rfl) dX6_part_25 (fun H locs hP _ hS => ?_)
    have hP : va_P (dC, dI) vwCl (wM ad cI cJ (1 : Int32) Ce Le De Ke Kc Ko Kl Kd Ug Ur Va To Tt Td Go Gg Ga Be Bt Si Te Bz Bk) H := hP
    refine lv_aload_n hx hb dX6_part_28 rfl (lv_at hl 0 rfl) ?_
    refine va_get (D := (dC, dI)) (ci := 8) (v := .int (1 : Int32)) (C := RX6) (T := TX6) (N := 24) hx hb hts iW_X6 hown hK hP 0 rfl rfl 0 (by decide) (hts _ mF_RX6_61) (fun _ h9 => h9) rfl dX6_part_29 ?_
    refine lv_if_le (tgt := 39) hx hb dX6_part_32 (by decide) (fun c2 => ?_) (fun c2 => ?_)
    · exact absurd c2 (by decide)
    · refine lv_lconst (v := 0) hx hb dX6_part_35 (by decide) ?_
      refine lv_goto (tgt := 53) hx hb dX6_part_36 (by decide) ?_
      rw [hQ9]
      have hf : f_X6_part a0 a1 Th Ce = ((0 : Int64), (1 : Int32)) := by simp only [f_X6_part, if_pos c1]
      exact W.lret (v := (0 : Int64)) hx hb hr (fun t ht hW => ⟨⟨(0 : Int64), (), rfl, by rw [hf], by rw [hf]; show va_P (dC, dI) vwCl _ t.heap; rw [ht]; exact hP⟩, hS.F ht⟩) hS.2.2 dX6_part_53
  · have hs := hs.2 c1
    refine lv_iload_n hx hb dX6_part_8 rfl (lv_at hl 2 rfl) ?_
    refine lv_i2l hx hb dX6_part_9 rfl ?_
    refine lv_lconst (v := 0) hx hb dX6_part_10 (by decide) ?_
    refine lv_ldc2 hx hb hown (hts _ mK_RX6_65) dX6_part_11 ?_
    refine q_X6_in hx hb hml hown hts mM_RX6_67 ⟨Nat.le_of_ble_eq_true rfl, Nat.le_of_ble_eq_true rfl⟩ ⟨Nat.le_of_ble_eq_true rfl, Nat.le_of_ble_eq_true rfl⟩ hl.1 (Nat.le_of_ble_eq_true rfl) hS dX6_part_14 hA a1.toInt64 (0 : Int64) (4 : Int64) (fun locs hS => ?_)
    refine lv_if_eq (tgt := 24) hx hb dX6_part_17 (by decide) (fun c3 => ?_) (fun c3 => ?_)
    · have hs := hs.1 c3
      refine lv_iconst (v := 1) hx hb dX6_part_24 (by decide) ?_
      refine va_put (D := (dC, dI)) (ci := 8) (v := .int (1 : Int32)) (ty := .int) (C := RX6) (T := TX6) (N := 24) hx hb hts iW_X6 tyX6 tyX6_ok nmX6 hown hK hP (fA_D hi rfl) hS 0 rfl rfl 0 (by decide) (hts _ mF_RX6_61) (fun _ h9 => h9) rfl (by decide +kernel) rfl rfl (Nat.le_of_ble_eq_true rfl) dX6_part_25 (fun H locs hP _ hS => ?_)
      have hP : va_P (dC, dI) vwCl (wM ad cI cJ (1 : Int32) Ce Le De Ke Kc Ko Kl Kd Ug Ur Va To Tt Td Go Gg Ga Be Bt Si Te Bz Bk) H := hP
      refine lv_aload_n hx hb dX6_part_28 rfl (lv_at hl 0 rfl) ?_
      refine va_get (D := (dC, dI)) (ci := 8) (v := .int (1 : Int32)) (C := RX6) (T := TX6) (N := 24) hx hb hts iW_X6 hown hK hP 0 rfl rfl 0 (by decide) (hts _ mF_RX6_61) (fun _ h9 => h9) rfl dX6_part_29 ?_
      refine lv_if_le (tgt := 39) hx hb dX6_part_32 (by decide) (fun c4 => ?_) (fun c4 => ?_)
      · exact absurd c4 (by decide)
      · refine lv_lconst (v := 0) hx hb dX6_part_35 (by decide) ?_
        refine lv_goto (tgt := 53) hx hb dX6_part_36 (by decide) ?_
        rw [hQ9]
        have hf : f_X6_part a0 a1 Th Ce = ((0 : Int64), (1 : Int32)) := by simp only [f_X6_part, if_neg c1, if_pos c3]
        exact W.lret (v := (0 : Int64)) hx hb hr (fun t ht hW => ⟨⟨(0 : Int64), (), rfl, by rw [hf], by rw [hf]; show va_P (dC, dI) vwCl _ t.heap; rw [ht]; exact hP⟩, hS.F ht⟩) hS.2.2 dX6_part_53
    · have hs := hs.2 c3
      refine lv_iconst (v := 0) hx hb dX6_part_20 (by decide) ?_
      refine lv_goto (tgt := 25) hx hb dX6_part_21 (by decide) ?_
      refine va_put (D := (dC, dI)) (ci := 8) (v := .int (0 : Int32)) (ty := .int) (C := RX6) (T := TX6) (N := 24) hx hb hts iW_X6 tyX6 tyX6_ok nmX6 hown hK hP (fA_D hi rfl) hS 0 rfl rfl 0 (by decide) (hts _ mF_RX6_61) (fun _ h9 => h9) rfl (by decide +kernel) rfl rfl (Nat.le_of_ble_eq_true rfl) dX6_part_25 (fun H locs hP _ hS => ?_)
      have hP : va_P (dC, dI) vwCl (wM ad cI cJ (0 : Int32) Ce Le De Ke Kc Ko Kl Kd Ug Ur Va To Tt Td Go Gg Ga Be Bt Si Te Bz Bk) H := hP
      refine lv_aload_n hx hb dX6_part_28 rfl (lv_at hl 0 rfl) ?_
      refine va_get (D := (dC, dI)) (ci := 8) (v := .int (0 : Int32)) (C := RX6) (T := TX6) (N := 24) hx hb hts iW_X6 hown hK hP 0 rfl rfl 0 (by decide) (hts _ mF_RX6_61) (fun _ h9 => h9) rfl dX6_part_29 ?_
      refine lv_if_le (tgt := 39) hx hb dX6_part_32 (by decide) (fun c5 => ?_) (fun c5 => ?_)
      · refine lv_aload_n hx hb dX6_part_39 rfl (lv_at hl 0 rfl) ?_
        refine va_get (D := (dC, dI)) (ci := 8) (v := .ref (ad 1)) (C := RX6) (T := TX6) (N := 24) hx hb hts iW_X6 hown hK hP 0 rfl rfl 1 (by decide) (hts _ mF_RX6_7) (fun _ h9 => h9) rfl dX6_part_40 ?_
        refine lv_bipush (v := 21) hx hb dX6_part_43 (by decide) ?_
        refine lv_bipush (v := 64) hx hb dX6_part_45 (by decide) ?_
        refine lv_iload_n hx hb dX6_part_47 rfl (lv_at hl 1 rfl) ?_
        refine lv_iadd hx hb dX6_part_48 ?_
        refine lv_imul hx hb dX6_part_49 ?_
        refine lv_iload_n hx hb dX6_part_50 rfl (lv_at hl 2 rfl) ?_
        refine lv_iadd hx hb dX6_part_51 ?_
        obtain ⟨h6, hs⟩ := hs
        refine va_lald hx hb hK hP 1 1 rfl rfl h6 dX6_part_52 ?_
        rw [hQ9]
        have hf : f_X6_part a0 a1 Th Ce = ((Ce (((21 : Int32) * ((64 : Int32) + a0)) + a1).toNatClampNeg), (0 : Int32)) := by simp only [f_X6_part, if_neg c1, if_neg c3]
        exact W.lret (v := (Ce (((21 : Int32) * ((64 : Int32) + a0)) + a1).toNatClampNeg)) hx hb hr (fun t ht hW => ⟨⟨(Ce (((21 : Int32) * ((64 : Int32) + a0)) + a1).toNatClampNeg), (), rfl, by rw [hf], by rw [hf]; show va_P (dC, dI) vwCl _ t.heap; rw [ht]; exact hP⟩, hS.F ht⟩) hS.2.2 dX6_part_53
      · exact absurd (by decide) c5
theorem q_X6_part {p : Program} {l : Launch} {e : Env} {R : Room} {s : State} {m : MethodId} {args : Array Value} {below : List Frame} {meth : Method} {c : Code} {H : Heap} {locs : List Loc} {cells slots : Nat} {Q : State → Prop} {pc : Nat} {ls : Array Slot} {rest : List Value} {cc : ByteArray} {nL idx : Nat} {own : String} {A0 : Nat → Prop} {dC : Nat → ClassId} {dI : Nat → Nat → Nat} {cI cJ : ClassId} {ad : Nat → Nat} {Th : Int32} {Ce : Nat → Int64} {Le : Nat → Int32} {De : Int32} {Ke : Int32} {Kc : Nat → Int64} {Ko : Nat → Int32} {Kl : Nat → Int32} {Kd : Nat → Int32} {Ug : Nat → Int64} {Ur : Nat → Int64} {Va : Nat → Int64} {To : Int32} {Tt : Nat → Int32} {Td : Nat → Int32} {Go : Int32} {Gg : Nat → Int32} {Ga : Nat → Int32} {Be : Int32} {Bt : Nat → Int32} {Si : Int32} {Te : Nat → Int32} {Bz : Int32} {Bk : Nat → Int32} (hx : p.tables.exec = Jvm.exec) (hb : c.code = cc) (hml : c.maxLocals = nL) (hown : s.vm.findClass own = some m.cls) (hts : ∀ w ∈ bigW, w.before args s = true) (hlk : Cond.methodLink own idx yX6_part ∈ bigW) (hR : 3 ≤ R.frames ∧ 67 ≤ R.locals) (hf : cells + 0 ≤ R.cells ∧ slots + 0 ≤ R.slots) (hz : ls.size = nL) (hw : (rest.map fun v => v.category).sum ≤ 8) (hS : va_S A0 s.heap H locs) (hd : decode cc pc = .ok (.invokevirtual idx, 3)) (hA : ∀ q, fA 17 ad H.size q → A0 q) (hi : fI 17 ad) (hK : va_K (dC, dI) vwCl [(cI, .int), (cJ, .long)] s) (hP : va_P (dC, dI) vwCl (wM ad cI cJ Th Ce Le De Ke Kc Ko Kl Kd Ug Ur Va To Tt Td Go Gg Ga Be Bt Si Te Bz Bk) H) (a0 : Int32) (a1 : Int32) (hs : S_X6_part a0 a1 Th Ce)  (u : Int64 × Int32) (hu : u = f_X6_part a0 a1 Th Ce) (k : ∀ (H1 : Heap) (locs1 : List Loc), va_P (dC, dI) vwCl (wM ad cI cJ u.2 Ce Le De Ke Kc Ko Kl Kd Ug Ur Va To Tt Td Go Gg Ga Be Bt Si Te Bz Bk) H1 → va_S A0 s.heap H1 locs1 → W p l e R s m args below meth c H1 locs1 (cells + 0) (slots + 0) Q (F0 m (pc + 3) ls (.long u.1 :: rest))) : W p l e R s m args below meth c H locs cells slots Q (F0 m pc ls (.int a1 :: .int a0 :: .ref (ad 0) :: rest)) := by
  subst hu
  exact va_calll (va_runV (As := [.int a0, .int a1]) (rest := rest) ⟨hx, hb, hml, hown, hts⟩ (c_X6_part l dC dI cI cJ ad hi H.size Th Ce Le De Ke Kc Ko Kl Kd Ug Ur Va To Tt Td Go Gg Ga Be Bt Si Te Bz Bk a0 a1 hs) (kV 2 hts hlk mI_X6_part mN_RX6 mY_X6_part mV_X6_part rfl rfl (by decide +kernel) hR) ⟨fun a U g mk q => ⟨q.1, q.2.1, q.2.2.1, va_K.moved (u := U) (U := U.calling g mk a) (Vm.Alike.refl U.vm) q.2.2.2⟩, va_recv hK hP (ci := 8) (q0 := 0) rfl rfl, fun U hU hW => ⟨rfl, by rw [hU], by rw [hU]; exact hP, va_K.moved hW.alike hK⟩⟩ rfl rfl hz rfl (lv_room hw) hd hf) hS (fun q _ h => hA q h) (fun q h => hA q h) (fun r u t H1 locs1 ht hvm hw9 hB hz1 hk1 hS1 => by
    subst hw9
    exact k H1 locs1 (by rw [← ht]; exact hB) hS1)
theorem qf_X6_part {p : Program} {l : Launch} {e : Env} {R : Room} {s : State} {m : MethodId} {args : Array Value} {below : List Frame} {meth : Method} {c : Code} {H : Heap} {locs : List Loc} {cells slots : Nat} {Q : State → Prop} {pc : Nat} {ls : Array Slot} {rest : List Value} {cc : ByteArray} {nL idx : Nat} {own : String} {A0 : Nat → Prop} {dC : Nat → ClassId} {dI : Nat → Nat → Nat} {cI cJ : ClassId} {ad : Nat → Nat} {Th : Int32} {Ce : Nat → Int64} {Le : Nat → Int32} {De : Int32} {Ke : Int32} {Kc : Nat → Int64} {Ko : Nat → Int32} {Kl : Nat → Int32} {Kd : Nat → Int32} {Ug : Nat → Int64} {Ur : Nat → Int64} {Va : Nat → Int64} {To : Int32} {Tt : Nat → Int32} {Td : Nat → Int32} {Go : Int32} {Gg : Nat → Int32} {Ga : Nat → Int32} {Be : Int32} {Bt : Nat → Int32} {Si : Int32} {Te : Nat → Int32} {Bz : Int32} {Bk : Nat → Int32} (hx : p.tables.exec = Jvm.exec) (hb : c.code = cc) (hml : c.maxLocals = nL) (hown : s.vm.findClass own = some m.cls) (hts : ∀ w ∈ bigW, w.before args s = true) (hlk : Cond.methodLink own idx yX6_part ∈ bigW) (hR : 3 ≤ R.frames ∧ 67 ≤ R.locals) (hf : cells + 0 ≤ R.cells ∧ slots + 0 ≤ R.slots) (hz : ls.size = nL) (hw : (rest.map fun v => v.category).sum ≤ 8) (hS : va_S A0 s.heap H locs) (hd : decode cc pc = .ok (.invokevirtual idx, 3)) (hA : ∀ q, fA 17 ad H.size q → A0 q) (hi : fI 17 ad) (hK : va_K (dC, dI) vwCl [(cI, .int), (cJ, .long)] s) (hP : va_P (dC, dI) vwCl (wM ad cI cJ Th Ce Le De Ke Kc Ko Kl Kd Ug Ur Va To Tt Td Go Gg Ga Be Bt Si Te Bz Bk) H) (a0 : Int32) (a1 : Int32) (hs : S_X6_part a0 a1 Th Ce)  (u : Int64 × Int32) (hu : u = f_X6_part a0 a1 Th Ce) (k : ∀ (H1 : Heap) (locs1 : List Loc), va_P (dC, dI) vwCl (wM ad cI cJ u.2 Ce Le De Ke Kc Ko Kl Kd Ug Ur Va To Tt Td Go Gg Ga Be Bt Si Te Bz Bk) H1 → va_S A0 s.heap H1 locs1 → (∀ q : Nat, q < H.size → ¬ fA 17 ad H.size q → H1[q]? = H[q]?) → H.size ≤ H1.size → W p l e R s m args below meth c H1 locs1 (cells + 0) (slots + 0) Q (F0 m (pc + 3) ls (.long u.1 :: rest))) : W p l e R s m args below meth c H locs cells slots Q (F0 m pc ls (.int a1 :: .int a0 :: .ref (ad 0) :: rest)) := by
  subst hu
  exact va_calll (va_runV (As := [.int a0, .int a1]) (rest := rest) ⟨hx, hb, hml, hown, hts⟩ (c_X6_part l dC dI cI cJ ad hi H.size Th Ce Le De Ke Kc Ko Kl Kd Ug Ur Va To Tt Td Go Gg Ga Be Bt Si Te Bz Bk a0 a1 hs) (kV 2 hts hlk mI_X6_part mN_RX6 mY_X6_part mV_X6_part rfl rfl (by decide +kernel) hR) ⟨fun a U g mk q => ⟨q.1, q.2.1, q.2.2.1, va_K.moved (u := U) (U := U.calling g mk a) (Vm.Alike.refl U.vm) q.2.2.2⟩, va_recv hK hP (ci := 8) (q0 := 0) rfl rfl, fun U hU hW => ⟨rfl, by rw [hU], by rw [hU]; exact hP, va_K.moved hW.alike hK⟩⟩ rfl rfl hz rfl (lv_room hw) hd hf) hS (fun q _ h => hA q h) (fun q h => hA q h) (fun r u t H1 locs1 ht hvm hw9 hB hz1 hk1 hS1 => by
    subst hw9
    exact k H1 locs1 (by rw [← ht]; exact hB) hS1 hk1 hz1)

def f_X6_at (a0 : Int32) (a1 : Int32) (Th : Int32) (Ce : Nat → Int64) : Int32 × Int32 := (if (f_X6_isRegister a0) = 0 then ((0 : Int32), (1 : Int32)) else (if a1 < 0 then ((0 : Int32), (1 : Int32)) else (if (Ce ((21 : Int32) * ((96 : Int32) + a0)).toNatClampNeg) ≤ a1.toInt64 then ((0 : Int32), (1 : Int32)) else ((Ce ((((21 : Int32) * ((96 : Int32) + a0)) + (1 : Int32)) + a1).toNatClampNeg).toInt32, (0 : Int32)))))
def S_X6_at (a0 : Int32) (a1 : Int32) (Th : Int32) (Ce : Nat → Int64) : Prop := ((f_X6_isRegister a0) = 0 → (True)) ∧ (¬ (f_X6_isRegister a0) = 0 → ((a1 < 0 → (True)) ∧ (¬ a1 < 0 → ((vp_in ((21 : Int32) * ((96 : Int32) + a0)) 3360) ∧ (((Ce ((21 : Int32) * ((96 : Int32) + a0)).toNatClampNeg) ≤ a1.toInt64 → (True)) ∧ (¬ (Ce ((21 : Int32) * ((96 : Int32) + a0)).toNatClampNeg) ≤ a1.toInt64 → ((vp_in ((((21 : Int32) * ((96 : Int32) + a0)) + (1 : Int32)) + a1) 3360) ∧ (True))))))))
set_option maxHeartbeats 4000000 in
set_option maxRecDepth 100000 in
theorem c_X6_at (l : Launch) (dC : Nat → ClassId) (dI : Nat → Nat → Nat) (cI cJ : ClassId) (ad : Nat → Nat) (hi : fI 17 ad) (sz : Nat) (Th : Int32) (Ce : Nat → Int64) (Le : Nat → Int32) (De : Int32) (Ke : Int32) (Kc : Nat → Int64) (Ko : Nat → Int32) (Kl : Nat → Int32) (Kd : Nat → Int32) (Ug : Nat → Int64) (Ur : Nat → Int64) (Va : Nat → Int64) (To : Int32) (Tt : Nat → Int32) (Td : Nat → Int32) (Go : Int32) (Gg : Nat → Int32) (Ga : Nat → Int32) (Be : Int32) (Bt : Nat → Int32) (Si : Int32) (Te : Nat → Int32) (Bz : Int32) (Bk : Nat → Int32) (a0 : Int32) (a1 : Int32) (hs : S_X6_at a0 a1 Th Ce) : Met l yX6_at (mW yX6_at cX6_at 4 (some .int)) { frames := 2, cells := 0, slots := 0, locals := 45 } (va_Pc [.ref (ad 0), .int a0, .int a1] (fun U => U.heap.size = sz ∧ va_P (dC, dI) vwCl (wM ad cI cJ Th Ce Le De Ke Kc Ko Kl Kd Ug Ur Va To Tt Td Go Gg Ga Be Bt Si Te Bz Bk) U.heap ∧ va_K (dC, dI) vwCl [(cI, .int), (cJ, .long)] U)) (va_Qi (fun (r : Int32) (_ : Unit) => r = (f_X6_at a0 a1 Th Ce).1) (fun _ t => va_P (dC, dI) vwCl (wM ad cI cJ ((f_X6_at a0 a1 Th Ce).2) Ce Le De Ke Kc Ko Kl Kd Ug Ur Va To Tt Td Go Gg Ga Be Bt Si Te Bz Bk) t.heap) (fA 17 ad sz)) 0 0 (fA 17 ad sz) := by
  refine Met.ofW (cc := cX6_at) (maxL := 4) (ret := (some .int)) (by decide) rfl ?_
  intro p e s m args below meth c s₁ B hml hv
  obtain ⟨rfl, hsz, hP, hK⟩ := hv
  have hx := B.exec
  have hb := B.bytes
  have hr := B.returns
  have hts := mW_hts (atoms_spec (ws := (mW yX6_at cX6_at 4 (some .int))) B.pre)
  have hown : s.vm.findClass RX6 = some m.cls := findClass_of_methodNamed B.named
  have hlocks := B.notSynchronized
  subst hsz
  have hA : ∀ (n : Nat) (q : Nat), s.heap.size ≤ n → n ≤ q → fA 17 ad s.heap.size q := fun n q h1 h2 => Or.inr (Nat.le_trans h1 h2)
  have hS : va_S (fA 17 ad s.heap.size) s.heap s.heap [] := va_S.rf
  have hA : ∀ q, s.heap.size ≤ q → (fA 17 ad s.heap.size) q := fun q h => Or.inr h
  unfold S_X6_at at hs
  have hl := lv_entry ([.ref (ad 0), .int a0, .int a1]) (n := 4) (Nat.le_of_ble_eq_true rfl)
  rw [lg_entry_eq]
  generalize (lg_sl ([.ref (ad 0), .int a0, .int a1]) ++ List.replicate (4 - (lg_sl ([.ref (ad 0), .int a0, .int a1])).length) Slot.unset).toArray = ls at hl ⊢
  have hl : lv_has ls 4 [(0, .ref (ad 0)), (1, .int a0), (2, .int a1)] := hl
  refine W_gen (fun Q9 hQ9 => ?_)
  refine lv_iload_n hx hb dX6_at_0 rfl (lv_at hl 1 rfl) ?_
  refine q_X6_isRegister hx hb hml hown hts mM_RX6_114 ⟨Nat.le_of_ble_eq_true rfl, Nat.le_of_ble_eq_true rfl⟩ ⟨Nat.le_of_ble_eq_true rfl, Nat.le_of_ble_eq_true rfl⟩ hl.1 (Nat.le_of_ble_eq_true rfl) hS dX6_at_1 hA a0 (fun locs hS => ?_)
  refine lv_if_eq (tgt := 15) hx hb dX6_at_4 (by decide) (fun c1 => ?_) (fun c1 => ?_)
  · have hs := hs.1 c1
    refine lv_iconst (v := 0) hx hb dX6_at_15 (by decide) ?_
    refine lv_istore_n (lv' := [(3, .int (0 : Int32)), (0, .ref (ad 0)), (1, .int a0), (2, .int a1)]) hx hb dX6_at_16 rfl hl (by decide) rfl (fun ls hl => ?_)
    refine lv_aload_n hx hb dX6_at_17 rfl (lv_at hl 1 rfl) ?_
    refine lv_iload_n hx hb dX6_at_18 rfl (lv_at hl 0 rfl) ?_
    refine lv_if_eq (tgt := 44) hx hb dX6_at_19 (by decide) (fun c2 => ?_) (fun c2 => ?_)
    · refine lv_iconst (v := 1) hx hb dX6_at_44 (by decide) ?_
      refine va_put (D := (dC, dI)) (ci := 8) (v := .int (1 : Int32)) (ty := .int) (C := RX6) (T := TX6) (N := 24) hx hb hts iW_X6 tyX6 tyX6_ok nmX6 hown hK hP (fA_D hi rfl) hS 0 rfl rfl 0 (by decide) (hts _ mF_RX6_61) (fun _ h9 => h9) rfl (by decide +kernel) rfl rfl (Nat.le_of_ble_eq_true rfl) dX6_at_45 (fun H locs hP _ hS => ?_)
      have hP : va_P (dC, dI) vwCl (wM ad cI cJ (1 : Int32) Ce Le De Ke Kc Ko Kl Kd Ug Ur Va To Tt Td Go Gg Ga Be Bt Si Te Bz Bk) H := hP
      refine lv_aload_n hx hb dX6_at_48 rfl (lv_at hl 1 rfl) ?_
      refine va_get (D := (dC, dI)) (ci := 8) (v := .int (1 : Int32)) (C := RX6) (T := TX6) (N := 24) hx hb hts iW_X6 hown hK hP 0 rfl rfl 0 (by decide) (hts _ mF_RX6_61) (fun _ h9 => h9) rfl dX6_at_49 ?_
      refine lv_if_le (tgt := 59) hx hb dX6_at_52 (by decide) (fun c3 => ?_) (fun c3 => ?_)
      · exact absurd c3 (by decide)
      · refine lv_iconst (v := 0) hx hb dX6_at_55 (by decide) ?_
        refine lv_goto (tgt := 76) hx hb dX6_at_56 (by decide) ?_
        rw [hQ9]
        have hf : f_X6_at a0 a1 Th Ce = ((0 : Int32), (1 : Int32)) := by simp only [f_X6_at, if_pos c1]
        exact W.iret (v := (0 : Int32)) hx hb hr (fun t ht hW => ⟨⟨(0 : Int32), (), rfl, by rw [hf], by rw [hf]; show va_P (dC, dI) vwCl _ t.heap; rw [ht]; exact hP⟩, hS.F ht⟩) hS.2.2 dX6_at_76
    · exact absurd (by decide) c2
  · have hs := hs.2 c1
    refine lv_iload_n hx hb dX6_at_7 rfl (lv_at hl 2 rfl) ?_
    refine lv_if_lt (tgt := 15) hx hb dX6_at_8 (by decide) (fun c4 => ?_) (fun c4 => ?_)
    · have hs := hs.1 c4
      refine lv_iconst (v := 0) hx hb dX6_at_15 (by decide) ?_
      refine lv_istore_n (lv' := [(3, .int (0 : Int32)), (0, .ref (ad 0)), (1, .int a0), (2, .int a1)]) hx hb dX6_at_16 rfl hl (by decide) rfl (fun ls hl => ?_)
      refine lv_aload_n hx hb dX6_at_17 rfl (lv_at hl 1 rfl) ?_
      refine lv_iload_n hx hb dX6_at_18 rfl (lv_at hl 0 rfl) ?_
      refine lv_if_eq (tgt := 44) hx hb dX6_at_19 (by decide) (fun c5 => ?_) (fun c5 => ?_)
      · refine lv_iconst (v := 1) hx hb dX6_at_44 (by decide) ?_
        refine va_put (D := (dC, dI)) (ci := 8) (v := .int (1 : Int32)) (ty := .int) (C := RX6) (T := TX6) (N := 24) hx hb hts iW_X6 tyX6 tyX6_ok nmX6 hown hK hP (fA_D hi rfl) hS 0 rfl rfl 0 (by decide) (hts _ mF_RX6_61) (fun _ h9 => h9) rfl (by decide +kernel) rfl rfl (Nat.le_of_ble_eq_true rfl) dX6_at_45 (fun H locs hP _ hS => ?_)
        have hP : va_P (dC, dI) vwCl (wM ad cI cJ (1 : Int32) Ce Le De Ke Kc Ko Kl Kd Ug Ur Va To Tt Td Go Gg Ga Be Bt Si Te Bz Bk) H := hP
        refine lv_aload_n hx hb dX6_at_48 rfl (lv_at hl 1 rfl) ?_
        refine va_get (D := (dC, dI)) (ci := 8) (v := .int (1 : Int32)) (C := RX6) (T := TX6) (N := 24) hx hb hts iW_X6 hown hK hP 0 rfl rfl 0 (by decide) (hts _ mF_RX6_61) (fun _ h9 => h9) rfl dX6_at_49 ?_
        refine lv_if_le (tgt := 59) hx hb dX6_at_52 (by decide) (fun c6 => ?_) (fun c6 => ?_)
        · exact absurd c6 (by decide)
        · refine lv_iconst (v := 0) hx hb dX6_at_55 (by decide) ?_
          refine lv_goto (tgt := 76) hx hb dX6_at_56 (by decide) ?_
          rw [hQ9]
          have hf : f_X6_at a0 a1 Th Ce = ((0 : Int32), (1 : Int32)) := by simp only [f_X6_at, if_neg c1, if_pos c4]
          exact W.iret (v := (0 : Int32)) hx hb hr (fun t ht hW => ⟨⟨(0 : Int32), (), rfl, by rw [hf], by rw [hf]; show va_P (dC, dI) vwCl _ t.heap; rw [ht]; exact hP⟩, hS.F ht⟩) hS.2.2 dX6_at_76
      · exact absurd (by decide) c5
    · have hs := hs.2 c4
      refine lv_iconst (v := 1) hx hb dX6_at_11 (by decide) ?_
      refine lv_goto (tgt := 16) hx hb dX6_at_12 (by decide) ?_
      refine lv_istore_n (lv' := [(3, .int (1 : Int32)), (0, .ref (ad 0)), (1, .int a0), (2, .int a1)]) hx hb dX6_at_16 rfl hl (by decide) rfl (fun ls hl => ?_)
      refine lv_aload_n hx hb dX6_at_17 rfl (lv_at hl 1 rfl) ?_
      refine lv_iload_n hx hb dX6_at_18 rfl (lv_at hl 0 rfl) ?_
      refine lv_if_eq (tgt := 44) hx hb dX6_at_19 (by decide) (fun c7 => ?_) (fun c7 => ?_)
      · exact absurd c7 (by decide)
      · refine lv_iload_n hx hb dX6_at_22 rfl (lv_at hl 3 rfl) ?_
        refine lv_i2l hx hb dX6_at_23 rfl ?_
        refine lv_aload_n hx hb dX6_at_24 rfl (lv_at hl 1 rfl) ?_
        refine va_get (D := (dC, dI)) (ci := 8) (v := .ref (ad 1)) (C := RX6) (T := TX6) (N := 24) hx hb hts iW_X6 hown hK hP 0 rfl rfl 1 (by decide) (hts _ mF_RX6_7) (fun _ h9 => h9) rfl dX6_at_25 ?_
        refine lv_bipush (v := 21) hx hb dX6_at_28 (by decide) ?_
        refine lv_bipush (v := 96) hx hb dX6_at_30 (by decide) ?_
        refine lv_iload_n hx hb dX6_at_32 rfl (lv_at hl 2 rfl) ?_
        refine lv_iadd hx hb dX6_at_33 ?_
        refine lv_imul hx hb dX6_at_34 ?_
        obtain ⟨h8, hs⟩ := hs
        refine va_lald hx hb hK hP 1 1 rfl rfl h8 dX6_at_35 ?_
        refine W.lcmp hx hb dX6_at_36 ?_
        refine lv_if_ge (tgt := 44) hx hb dX6_at_37 (by decide) (fun c9 => ?_) (fun c9 => ?_)
        · have c9 : (Ce ((21 : Int32) * ((96 : Int32) + a0)).toNatClampNeg) ≤ a1.toInt64 := lc_ge.mp c9
          have hs := hs.1 c9
          refine lv_iconst (v := 1) hx hb dX6_at_44 (by decide) ?_
          refine va_put (D := (dC, dI)) (ci := 8) (v := .int (1 : Int32)) (ty := .int) (C := RX6) (T := TX6) (N := 24) hx hb hts iW_X6 tyX6 tyX6_ok nmX6 hown hK hP (fA_D hi rfl) hS 0 rfl rfl 0 (by decide) (hts _ mF_RX6_61) (fun _ h9 => h9) rfl (by decide +kernel) rfl rfl (Nat.le_of_ble_eq_true rfl) dX6_at_45 (fun H locs hP _ hS => ?_)
          have hP : va_P (dC, dI) vwCl (wM ad cI cJ (1 : Int32) Ce Le De Ke Kc Ko Kl Kd Ug Ur Va To Tt Td Go Gg Ga Be Bt Si Te Bz Bk) H := hP
          refine lv_aload_n hx hb dX6_at_48 rfl (lv_at hl 1 rfl) ?_
          refine va_get (D := (dC, dI)) (ci := 8) (v := .int (1 : Int32)) (C := RX6) (T := TX6) (N := 24) hx hb hts iW_X6 hown hK hP 0 rfl rfl 0 (by decide) (hts _ mF_RX6_61) (fun _ h9 => h9) rfl dX6_at_49 ?_
          refine lv_if_le (tgt := 59) hx hb dX6_at_52 (by decide) (fun c10 => ?_) (fun c10 => ?_)
          · exact absurd c10 (by decide)
          · refine lv_iconst (v := 0) hx hb dX6_at_55 (by decide) ?_
            refine lv_goto (tgt := 76) hx hb dX6_at_56 (by decide) ?_
            rw [hQ9]
            have hf : f_X6_at a0 a1 Th Ce = ((0 : Int32), (1 : Int32)) := by simp only [f_X6_at, if_neg c1, if_neg c4, if_pos c9]
            exact W.iret (v := (0 : Int32)) hx hb hr (fun t ht hW => ⟨⟨(0 : Int32), (), rfl, by rw [hf], by rw [hf]; show va_P (dC, dI) vwCl _ t.heap; rw [ht]; exact hP⟩, hS.F ht⟩) hS.2.2 dX6_at_76
        · have c9 : ¬ (Ce ((21 : Int32) * ((96 : Int32) + a0)).toNatClampNeg) ≤ a1.toInt64 := fun z => c9 (lc_ge.mpr z)
          have hs := hs.2 c9
          refine lv_iconst (v := 0) hx hb dX6_at_40 (by decide) ?_
          refine lv_goto (tgt := 45) hx hb dX6_at_41 (by decide) ?_
          refine va_put (D := (dC, dI)) (ci := 8) (v := .int (0 : Int32)) (ty := .int) (C := RX6) (T := TX6) (N := 24) hx hb hts iW_X6 tyX6 tyX6_ok nmX6 hown hK hP (fA_D hi rfl) hS 0 rfl rfl 0 (by decide) (hts _ mF_RX6_61) (fun _ h9 => h9) rfl (by decide +kernel) rfl rfl (Nat.le_of_ble_eq_true rfl) dX6_at_45 (fun H locs hP _ hS => ?_)
          have hP : va_P (dC, dI) vwCl (wM ad cI cJ (0 : Int32) Ce Le De Ke Kc Ko Kl Kd Ug Ur Va To Tt Td Go Gg Ga Be Bt Si Te Bz Bk) H := hP
          refine lv_aload_n hx hb dX6_at_48 rfl (lv_at hl 1 rfl) ?_
          refine va_get (D := (dC, dI)) (ci := 8) (v := .int (0 : Int32)) (C := RX6) (T := TX6) (N := 24) hx hb hts iW_X6 hown hK hP 0 rfl rfl 0 (by decide) (hts _ mF_RX6_61) (fun _ h9 => h9) rfl dX6_at_49 ?_
          refine lv_if_le (tgt := 59) hx hb dX6_at_52 (by decide) (fun c11 => ?_) (fun c11 => ?_)
          · refine lv_aload_n hx hb dX6_at_59 rfl (lv_at hl 1 rfl) ?_
            refine va_get (D := (dC, dI)) (ci := 8) (v := .ref (ad 1)) (C := RX6) (T := TX6) (N := 24) hx hb hts iW_X6 hown hK hP 0 rfl rfl 1 (by decide) (hts _ mF_RX6_7) (fun _ h9 => h9) rfl dX6_at_60 ?_
            refine lv_bipush (v := 21) hx hb dX6_at_63 (by decide) ?_
            refine lv_bipush (v := 96) hx hb dX6_at_65 (by decide) ?_
            refine lv_iload_n hx hb dX6_at_67 rfl (lv_at hl 2 rfl) ?_
            refine lv_iadd hx hb dX6_at_68 ?_
            refine lv_imul hx hb dX6_at_69 ?_
            refine lv_iconst (v := 1) hx hb dX6_at_70 (by decide) ?_
            refine lv_iadd hx hb dX6_at_71 ?_
            refine lv_iload_n hx hb dX6_at_72 rfl (lv_at hl 3 rfl) ?_
            refine lv_iadd hx hb dX6_at_73 ?_
            obtain ⟨h12, hs⟩ := hs
            refine va_lald hx hb hK hP 1 1 rfl rfl h12 dX6_at_74 ?_
            refine lv_l2i hx hb dX6_at_75 rfl ?_
            rw [hQ9]
            have hf : f_X6_at a0 a1 Th Ce = ((Ce ((((21 : Int32) * ((96 : Int32) + a0)) + (1 : Int32)) + a1).toNatClampNeg).toInt32, (0 : Int32)) := by simp only [f_X6_at, if_neg c1, if_neg c4, if_neg c9]
            exact W.iret (v := (Ce ((((21 : Int32) * ((96 : Int32) + a0)) + (1 : Int32)) + a1).toNatClampNeg).toInt32) hx hb hr (fun t ht hW => ⟨⟨(Ce ((((21 : Int32) * ((96 : Int32) + a0)) + (1 : Int32)) + a1).toNatClampNeg).toInt32, (), rfl, by rw [hf], by rw [hf]; show va_P (dC, dI) vwCl _ t.heap; rw [ht]; exact hP⟩, hS.F ht⟩) hS.2.2 dX6_at_76
          · exact absurd (by decide) c11
theorem q_X6_at {p : Program} {l : Launch} {e : Env} {R : Room} {s : State} {m : MethodId} {args : Array Value} {below : List Frame} {meth : Method} {c : Code} {H : Heap} {locs : List Loc} {cells slots : Nat} {Q : State → Prop} {pc : Nat} {ls : Array Slot} {rest : List Value} {cc : ByteArray} {nL idx : Nat} {own : String} {A0 : Nat → Prop} {dC : Nat → ClassId} {dI : Nat → Nat → Nat} {cI cJ : ClassId} {ad : Nat → Nat} {Th : Int32} {Ce : Nat → Int64} {Le : Nat → Int32} {De : Int32} {Ke : Int32} {Kc : Nat → Int64} {Ko : Nat → Int32} {Kl : Nat → Int32} {Kd : Nat → Int32} {Ug : Nat → Int64} {Ur : Nat → Int64} {Va : Nat → Int64} {To : Int32} {Tt : Nat → Int32} {Td : Nat → Int32} {Go : Int32} {Gg : Nat → Int32} {Ga : Nat → Int32} {Be : Int32} {Bt : Nat → Int32} {Si : Int32} {Te : Nat → Int32} {Bz : Int32} {Bk : Nat → Int32} (hx : p.tables.exec = Jvm.exec) (hb : c.code = cc) (hml : c.maxLocals = nL) (hown : s.vm.findClass own = some m.cls) (hts : ∀ w ∈ bigW, w.before args s = true) (hlk : Cond.methodLink own idx yX6_at ∈ bigW) (hR : 3 ≤ R.frames ∧ 68 ≤ R.locals) (hf : cells + 0 ≤ R.cells ∧ slots + 0 ≤ R.slots) (hz : ls.size = nL) (hw : (rest.map fun v => v.category).sum ≤ 8) (hS : va_S A0 s.heap H locs) (hd : decode cc pc = .ok (.invokevirtual idx, 3)) (hA : ∀ q, fA 17 ad H.size q → A0 q) (hi : fI 17 ad) (hK : va_K (dC, dI) vwCl [(cI, .int), (cJ, .long)] s) (hP : va_P (dC, dI) vwCl (wM ad cI cJ Th Ce Le De Ke Kc Ko Kl Kd Ug Ur Va To Tt Td Go Gg Ga Be Bt Si Te Bz Bk) H) (a0 : Int32) (a1 : Int32) (hs : S_X6_at a0 a1 Th Ce)  (u : Int32 × Int32) (hu : u = f_X6_at a0 a1 Th Ce) (k : ∀ (H1 : Heap) (locs1 : List Loc), va_P (dC, dI) vwCl (wM ad cI cJ u.2 Ce Le De Ke Kc Ko Kl Kd Ug Ur Va To Tt Td Go Gg Ga Be Bt Si Te Bz Bk) H1 → va_S A0 s.heap H1 locs1 → W p l e R s m args below meth c H1 locs1 (cells + 0) (slots + 0) Q (F0 m (pc + 3) ls (.int u.1 :: rest))) : W p l e R s m args below meth c H locs cells slots Q (F0 m pc ls (.int a1 :: .int a0 :: .ref (ad 0) :: rest)) := by
  subst hu
  exact va_calli (va_runV (As := [.int a0, .int a1]) (rest := rest) ⟨hx, hb, hml, hown, hts⟩ (c_X6_at l dC dI cI cJ ad hi H.size Th Ce Le De Ke Kc Ko Kl Kd Ug Ur Va To Tt Td Go Gg Ga Be Bt Si Te Bz Bk a0 a1 hs) (kV 2 hts hlk mI_X6_at mN_RX6 mY_X6_at mV_X6_at rfl rfl (by decide +kernel) hR) ⟨fun a U g mk q => ⟨q.1, q.2.1, q.2.2.1, va_K.moved (u := U) (U := U.calling g mk a) (Vm.Alike.refl U.vm) q.2.2.2⟩, va_recv hK hP (ci := 8) (q0 := 0) rfl rfl, fun U hU hW => ⟨rfl, by rw [hU], by rw [hU]; exact hP, va_K.moved hW.alike hK⟩⟩ rfl rfl hz rfl (lv_room hw) hd hf) hS (fun q _ h => hA q h) (fun q h => hA q h) (fun r u t H1 locs1 ht hvm hw9 hB hz1 hk1 hS1 => by
    subst hw9
    exact k H1 locs1 (by rw [← ht]; exact hB) hS1)
theorem qf_X6_at {p : Program} {l : Launch} {e : Env} {R : Room} {s : State} {m : MethodId} {args : Array Value} {below : List Frame} {meth : Method} {c : Code} {H : Heap} {locs : List Loc} {cells slots : Nat} {Q : State → Prop} {pc : Nat} {ls : Array Slot} {rest : List Value} {cc : ByteArray} {nL idx : Nat} {own : String} {A0 : Nat → Prop} {dC : Nat → ClassId} {dI : Nat → Nat → Nat} {cI cJ : ClassId} {ad : Nat → Nat} {Th : Int32} {Ce : Nat → Int64} {Le : Nat → Int32} {De : Int32} {Ke : Int32} {Kc : Nat → Int64} {Ko : Nat → Int32} {Kl : Nat → Int32} {Kd : Nat → Int32} {Ug : Nat → Int64} {Ur : Nat → Int64} {Va : Nat → Int64} {To : Int32} {Tt : Nat → Int32} {Td : Nat → Int32} {Go : Int32} {Gg : Nat → Int32} {Ga : Nat → Int32} {Be : Int32} {Bt : Nat → Int32} {Si : Int32} {Te : Nat → Int32} {Bz : Int32} {Bk : Nat → Int32} (hx : p.tables.exec = Jvm.exec) (hb : c.code = cc) (hml : c.maxLocals = nL) (hown : s.vm.findClass own = some m.cls) (hts : ∀ w ∈ bigW, w.before args s = true) (hlk : Cond.methodLink own idx yX6_at ∈ bigW) (hR : 3 ≤ R.frames ∧ 68 ≤ R.locals) (hf : cells + 0 ≤ R.cells ∧ slots + 0 ≤ R.slots) (hz : ls.size = nL) (hw : (rest.map fun v => v.category).sum ≤ 8) (hS : va_S A0 s.heap H locs) (hd : decode cc pc = .ok (.invokevirtual idx, 3)) (hA : ∀ q, fA 17 ad H.size q → A0 q) (hi : fI 17 ad) (hK : va_K (dC, dI) vwCl [(cI, .int), (cJ, .long)] s) (hP : va_P (dC, dI) vwCl (wM ad cI cJ Th Ce Le De Ke Kc Ko Kl Kd Ug Ur Va To Tt Td Go Gg Ga Be Bt Si Te Bz Bk) H) (a0 : Int32) (a1 : Int32) (hs : S_X6_at a0 a1 Th Ce)  (u : Int32 × Int32) (hu : u = f_X6_at a0 a1 Th Ce) (k : ∀ (H1 : Heap) (locs1 : List Loc), va_P (dC, dI) vwCl (wM ad cI cJ u.2 Ce Le De Ke Kc Ko Kl Kd Ug Ur Va To Tt Td Go Gg Ga Be Bt Si Te Bz Bk) H1 → va_S A0 s.heap H1 locs1 → (∀ q : Nat, q < H.size → ¬ fA 17 ad H.size q → H1[q]? = H[q]?) → H.size ≤ H1.size → W p l e R s m args below meth c H1 locs1 (cells + 0) (slots + 0) Q (F0 m (pc + 3) ls (.int u.1 :: rest))) : W p l e R s m args below meth c H locs cells slots Q (F0 m pc ls (.int a1 :: .int a0 :: .ref (ad 0) :: rest)) := by
  subst hu
  exact va_calli (va_runV (As := [.int a0, .int a1]) (rest := rest) ⟨hx, hb, hml, hown, hts⟩ (c_X6_at l dC dI cI cJ ad hi H.size Th Ce Le De Ke Kc Ko Kl Kd Ug Ur Va To Tt Td Go Gg Ga Be Bt Si Te Bz Bk a0 a1 hs) (kV 2 hts hlk mI_X6_at mN_RX6 mY_X6_at mV_X6_at rfl rfl (by decide +kernel) hR) ⟨fun a U g mk q => ⟨q.1, q.2.1, q.2.2.1, va_K.moved (u := U) (U := U.calling g mk a) (Vm.Alike.refl U.vm) q.2.2.2⟩, va_recv hK hP (ci := 8) (q0 := 0) rfl rfl, fun U hU hW => ⟨rfl, by rw [hU], by rw [hU]; exact hP, va_K.moved hW.alike hK⟩⟩ rfl rfl hz rfl (lv_room hw) hd hf) hS (fun q _ h => hA q h) (fun q h => hA q h) (fun r u t H1 locs1 ht hvm hw9 hB hz1 hk1 hS1 => by
    subst hw9
    exact k H1 locs1 (by rw [← ht]; exact hB) hS1 hk1 hz1)

def f_X6_told (a0 : Int32) (a1 : Int32) (Th : Int32) (Le : Nat → Int32) (De : Int32) (Ke : Int32) : Int32 × Int32 := (if (f_X6_in a0.toInt64 (0 : Int64) (1 : Int64)) = 0 then (if (f_X6_in a0.toInt64 (10 : Int64) (14 : Int64)) = 0 then ((0 : Int32), (1 : Int32)) else (if (f_X6_isRegister a1) = 0 then ((0 : Int32), (2 : Int32)) else ((Le (((32 : Int32) * (a0 - (10 : Int32))) + a1).toNatClampNeg), (0 : Int32)))) else (if (f_X6_in a0.toInt64 (10 : Int64) (14 : Int64)) = 0 then (if a0 = 0 then (De, (0 : Int32)) else (Ke, (0 : Int32))) else (if (f_X6_isRegister a1) = 0 then ((0 : Int32), (2 : Int32)) else ((Le (((32 : Int32) * (a0 - (10 : Int32))) + a1).toNatClampNeg), (0 : Int32)))))
def S_X6_told (a0 : Int32) (a1 : Int32) (Th : Int32) (Le : Nat → Int32) (De : Int32) (Ke : Int32) : Prop := ((f_X6_in a0.toInt64 (0 : Int64) (1 : Int64)) = 0 → (((f_X6_in a0.toInt64 (10 : Int64) (14 : Int64)) = 0 → (True)) ∧ (¬ (f_X6_in a0.toInt64 (10 : Int64) (14 : Int64)) = 0 → (((f_X6_isRegister a1) = 0 → (True)) ∧ (¬ (f_X6_isRegister a1) = 0 → ((vp_in (((32 : Int32) * (a0 - (10 : Int32))) + a1) 160) ∧ (True))))))) ∧ (¬ (f_X6_in a0.toInt64 (0 : Int64) (1 : Int64)) = 0 → (((f_X6_in a0.toInt64 (10 : Int64) (14 : Int64)) = 0 → ((a0 = 0 → (True)) ∧ (¬ a0 = 0 → (True)))) ∧ (¬ (f_X6_in a0.toInt64 (10 : Int64) (14 : Int64)) = 0 → (((f_X6_isRegister a1) = 0 → (True)) ∧ (¬ (f_X6_isRegister a1) = 0 → ((vp_in (((32 : Int32) * (a0 - (10 : Int32))) + a1) 160) ∧ (True)))))))
set_option maxHeartbeats 4000000 in
set_option maxRecDepth 100000 in
theorem c_X6_told (l : Launch) (dC : Nat → ClassId) (dI : Nat → Nat → Nat) (cI cJ : ClassId) (ad : Nat → Nat) (hi : fI 17 ad) (sz : Nat) (Th : Int32) (Ce : Nat → Int64) (Le : Nat → Int32) (De : Int32) (Ke : Int32) (Kc : Nat → Int64) (Ko : Nat → Int32) (Kl : Nat → Int32) (Kd : Nat → Int32) (Ug : Nat → Int64) (Ur : Nat → Int64) (Va : Nat → Int64) (To : Int32) (Tt : Nat → Int32) (Td : Nat → Int32) (Go : Int32) (Gg : Nat → Int32) (Ga : Nat → Int32) (Be : Int32) (Bt : Nat → Int32) (Si : Int32) (Te : Nat → Int32) (Bz : Int32) (Bk : Nat → Int32) (a0 : Int32) (a1 : Int32) (hs : S_X6_told a0 a1 Th Le De Ke) : Met l yX6_told (mW yX6_told cX6_told 4 (some .int)) { frames := 2, cells := 0, slots := 0, locals := 45 } (va_Pc [.ref (ad 0), .int a0, .int a1] (fun U => U.heap.size = sz ∧ va_P (dC, dI) vwCl (wM ad cI cJ Th Ce Le De Ke Kc Ko Kl Kd Ug Ur Va To Tt Td Go Gg Ga Be Bt Si Te Bz Bk) U.heap ∧ va_K (dC, dI) vwCl [(cI, .int), (cJ, .long)] U)) (va_Qi (fun (r : Int32) (_ : Unit) => r = (f_X6_told a0 a1 Th Le De Ke).1) (fun _ t => va_P (dC, dI) vwCl (wM ad cI cJ ((f_X6_told a0 a1 Th Le De Ke).2) Ce Le De Ke Kc Ko Kl Kd Ug Ur Va To Tt Td Go Gg Ga Be Bt Si Te Bz Bk) t.heap) (fA 17 ad sz)) 0 0 (fA 17 ad sz) := by
  refine Met.ofW (cc := cX6_told) (maxL := 4) (ret := (some .int)) (by decide) rfl ?_
  intro p e s m args below meth c s₁ B hml hv
  obtain ⟨rfl, hsz, hP, hK⟩ := hv
  have hx := B.exec
  have hb := B.bytes
  have hr := B.returns
  have hts := mW_hts (atoms_spec (ws := (mW yX6_told cX6_told 4 (some .int))) B.pre)
  have hown : s.vm.findClass RX6 = some m.cls := findClass_of_methodNamed B.named
  have hlocks := B.notSynchronized
  subst hsz
  have hA : ∀ (n : Nat) (q : Nat), s.heap.size ≤ n → n ≤ q → fA 17 ad s.heap.size q := fun n q h1 h2 => Or.inr (Nat.le_trans h1 h2)
  have hS : va_S (fA 17 ad s.heap.size) s.heap s.heap [] := va_S.rf
  have hA : ∀ q, s.heap.size ≤ q → (fA 17 ad s.heap.size) q := fun q h => Or.inr h
  unfold S_X6_told at hs
  have hl := lv_entry ([.ref (ad 0), .int a0, .int a1]) (n := 4) (Nat.le_of_ble_eq_true rfl)
  rw [lg_entry_eq]
  generalize (lg_sl ([.ref (ad 0), .int a0, .int a1]) ++ List.replicate (4 - (lg_sl ([.ref (ad 0), .int a0, .int a1])).length) Slot.unset).toArray = ls at hl ⊢
  have hl : lv_has ls 4 [(0, .ref (ad 0)), (1, .int a0), (2, .int a1)] := hl
  refine W_gen (fun Q9 hQ9 => ?_)
  refine lv_iload_n hx hb dX6_told_0 rfl (lv_at hl 1 rfl) ?_
  refine lv_i2l hx hb dX6_told_1 rfl ?_
  refine lv_ldc2 hx hb hown (hts _ mK_RX6_147) dX6_told_2 ?_
  refine lv_ldc2 hx hb hown (hts _ mK_RX6_149) dX6_told_5 ?_
  refine q_X6_in hx hb hml hown hts mM_RX6_67 ⟨Nat.le_of_ble_eq_true rfl, Nat.le_of_ble_eq_true rfl⟩ ⟨Nat.le_of_ble_eq_true rfl, Nat.le_of_ble_eq_true rfl⟩ hl.1 (Nat.le_of_ble_eq_true rfl) hS dX6_told_8 hA a0.toInt64 (10 : Int64) (14 : Int64) (fun locs hS => ?_)
  refine lv_istore_n (lv' := [(3, .int (f_X6_in a0.toInt64 (10 : Int64) (14 : Int64))), (0, .ref (ad 0)), (1, .int a0), (2, .int a1)]) hx hb dX6_told_11 rfl hl (by decide) rfl (fun ls hl => ?_)
  refine lv_aload_n hx hb dX6_told_12 rfl (lv_at hl 1 rfl) ?_
  refine lv_iload_n hx hb dX6_told_13 rfl (lv_at hl 2 rfl) ?_
  refine lv_i2l hx hb dX6_told_14 rfl ?_
  refine lv_lconst (v := 0) hx hb dX6_told_15 (by decide) ?_
  refine lv_lconst (v := 1) hx hb dX6_told_16 (by decide) ?_
  refine q_X6_in hx hb hml hown hts mM_RX6_67 ⟨Nat.le_of_ble_eq_true rfl, Nat.le_of_ble_eq_true rfl⟩ ⟨Nat.le_of_ble_eq_true rfl, Nat.le_of_ble_eq_true rfl⟩ hl.1 (Nat.le_of_ble_eq_true rfl) hS dX6_told_17 hA a0.toInt64 (0 : Int64) (1 : Int64) (fun locs hS => ?_)
  refine lv_if_ne (tgt := 31) hx hb dX6_told_20 (by decide) (fun c1 => ?_) (fun c1 => ?_)
  · have hs := hs.2 c1
    refine lv_iload_n hx hb dX6_told_31 rfl (lv_at hl 0 rfl) ?_
    refine lv_if_eq (tgt := 46) hx hb dX6_told_32 (by decide) (fun c2 => ?_) (fun c2 => ?_)
    · have hs := hs.1 c2
      refine lv_iconst (v := 0) hx hb dX6_told_46 (by decide) ?_
      refine va_put (D := (dC, dI)) (ci := 8) (v := .int (0 : Int32)) (ty := .int) (C := RX6) (T := TX6) (N := 24) hx hb hts iW_X6 tyX6 tyX6_ok nmX6 hown hK hP (fA_D hi rfl) hS 0 rfl rfl 0 (by decide) (hts _ mF_RX6_61) (fun _ h9 => h9) rfl (by decide +kernel) rfl rfl (Nat.le_of_ble_eq_true rfl) dX6_told_47 (fun H locs hP _ hS => ?_)
      have hP : va_P (dC, dI) vwCl (wM ad cI cJ (0 : Int32) Ce Le De Ke Kc Ko Kl Kd Ug Ur Va To Tt Td Go Gg Ga Be Bt Si Te Bz Bk) H := hP
      refine lv_aload_n hx hb dX6_told_50 rfl (lv_at hl 1 rfl) ?_
      refine va_get (D := (dC, dI)) (ci := 8) (v := .int (0 : Int32)) (C := RX6) (T := TX6) (N := 24) hx hb hts iW_X6 hown hK hP 0 rfl rfl 0 (by decide) (hts _ mF_RX6_61) (fun _ h9 => h9) rfl dX6_told_51 ?_
      refine lv_if_le (tgt := 59) hx hb dX6_told_54 (by decide) (fun c3 => ?_) (fun c3 => ?_)
      · refine lv_iload_n hx hb dX6_told_59 rfl (lv_at hl 0 rfl) ?_
        refine lv_if_eq (tgt := 80) hx hb dX6_told_60 (by decide) (fun c4 => ?_) (fun c4 => ?_)
        · refine lv_iload_n hx hb dX6_told_80 rfl (lv_at hl 2 rfl) ?_
          refine lv_if_ne (tgt := 91) hx hb dX6_told_81 (by decide) (fun c5 => ?_) (fun c5 => ?_)
          · have hs := hs.2 c5
            refine lv_aload_n hx hb dX6_told_91 rfl (lv_at hl 1 rfl) ?_
            refine va_get (D := (dC, dI)) (ci := 8) (v := .int Ke) (C := RX6) (T := TX6) (N := 24) hx hb hts iW_X6 hown hK hP 0 rfl rfl 4 (by decide) (hts _ mF_RX6_94) (fun _ h9 => h9) rfl dX6_told_92 ?_
            rw [hQ9]
            have hf : f_X6_told a0 a1 Th Le De Ke = (Ke, (0 : Int32)) := by simp only [f_X6_told, if_neg c1, if_pos c2, if_neg c5]
            exact W.iret (v := Ke) hx hb hr (fun t ht hW => ⟨⟨Ke, (), rfl, by rw [hf], by rw [hf]; show va_P (dC, dI) vwCl _ t.heap; rw [ht]; exact hP⟩, hS.F ht⟩) hS.2.2 dX6_told_95
          · have hs := hs.1 c5
            refine lv_aload_n hx hb dX6_told_84 rfl (lv_at hl 1 rfl) ?_
            refine va_get (D := (dC, dI)) (ci := 8) (v := .int De) (C := RX6) (T := TX6) (N := 24) hx hb hts iW_X6 hown hK hP 0 rfl rfl 3 (by decide) (hts _ mF_RX6_91) (fun _ h9 => h9) rfl dX6_told_85 ?_
            refine lv_goto (tgt := 95) hx hb dX6_told_88 (by decide) ?_
            rw [hQ9]
            have hf : f_X6_told a0 a1 Th Le De Ke = (De, (0 : Int32)) := by simp only [f_X6_told, if_neg c1, if_pos c2, if_pos c5]
            exact W.iret (v := De) hx hb hr (fun t ht hW => ⟨⟨De, (), rfl, by rw [hf], by rw [hf]; show va_P (dC, dI) vwCl _ t.heap; rw [ht]; exact hP⟩, hS.F ht⟩) hS.2.2 dX6_told_95
        · exact absurd c2 c4
      · exact absurd (by decide) c3
    · have hs := hs.2 c2
      refine lv_iload_n hx hb dX6_told_35 rfl (lv_at hl 3 rfl) ?_
      refine q_X6_isRegister hx hb hml hown hts mM_RX6_114 ⟨Nat.le_of_ble_eq_true rfl, Nat.le_of_ble_eq_true rfl⟩ ⟨Nat.le_of_ble_eq_true rfl, Nat.le_of_ble_eq_true rfl⟩ hl.1 (Nat.le_of_ble_eq_true rfl) hS dX6_told_36 hA a1 (fun locs hS => ?_)
      refine lv_if_ne (tgt := 46) hx hb dX6_told_39 (by decide) (fun c6 => ?_) (fun c6 => ?_)
      · have hs := hs.2 c6
        refine lv_iconst (v := 0) hx hb dX6_told_46 (by decide) ?_
        refine va_put (D := (dC, dI)) (ci := 8) (v := .int (0 : Int32)) (ty := .int) (C := RX6) (T := TX6) (N := 24) hx hb hts iW_X6 tyX6 tyX6_ok nmX6 hown hK hP (fA_D hi rfl) hS 0 rfl rfl 0 (by decide) (hts _ mF_RX6_61) (fun _ h9 => h9) rfl (by decide +kernel) rfl rfl (Nat.le_of_ble_eq_true rfl) dX6_told_47 (fun H locs hP _ hS => ?_)
        have hP : va_P (dC, dI) vwCl (wM ad cI cJ (0 : Int32) Ce Le De Ke Kc Ko Kl Kd Ug Ur Va To Tt Td Go Gg Ga Be Bt Si Te Bz Bk) H := hP
        refine lv_aload_n hx hb dX6_told_50 rfl (lv_at hl 1 rfl) ?_
        refine va_get (D := (dC, dI)) (ci := 8) (v := .int (0 : Int32)) (C := RX6) (T := TX6) (N := 24) hx hb hts iW_X6 hown hK hP 0 rfl rfl 0 (by decide) (hts _ mF_RX6_61) (fun _ h9 => h9) rfl dX6_told_51 ?_
        refine lv_if_le (tgt := 59) hx hb dX6_told_54 (by decide) (fun c7 => ?_) (fun c7 => ?_)
        · refine lv_iload_n hx hb dX6_told_59 rfl (lv_at hl 0 rfl) ?_
          refine lv_if_eq (tgt := 80) hx hb dX6_told_60 (by decide) (fun c8 => ?_) (fun c8 => ?_)
          · exact absurd c8 c2
          · refine lv_aload_n hx hb dX6_told_63 rfl (lv_at hl 1 rfl) ?_
            refine va_get (D := (dC, dI)) (ci := 8) (v := .ref (ad 2)) (C := RX6) (T := TX6) (N := 24) hx hb hts iW_X6 hown hK hP 0 rfl rfl 2 (by decide) (hts _ mF_RX6_13) (fun _ h9 => h9) rfl dX6_told_64 ?_
            refine lv_bipush (v := 32) hx hb dX6_told_67 (by decide) ?_
            refine lv_iload_n hx hb dX6_told_69 rfl (lv_at hl 2 rfl) ?_
            refine lv_bipush (v := 10) hx hb dX6_told_70 (by decide) ?_
            refine lv_isub hx hb dX6_told_72 ?_
            refine lv_imul hx hb dX6_told_73 ?_
            refine lv_iload_n hx hb dX6_told_74 rfl (lv_at hl 3 rfl) ?_
            refine lv_iadd hx hb dX6_told_75 ?_
            obtain ⟨h9, hs⟩ := hs
            refine va_iald hx hb hK hP 2 0 rfl rfl h9 dX6_told_76 ?_
            refine lv_goto (tgt := 95) hx hb dX6_told_77 (by decide) ?_
            rw [hQ9]
            have hf : f_X6_told a0 a1 Th Le De Ke = ((Le (((32 : Int32) * (a0 - (10 : Int32))) + a1).toNatClampNeg), (0 : Int32)) := by simp only [f_X6_told, if_neg c1, if_neg c2, if_neg c6]
            exact W.iret (v := (Le (((32 : Int32) * (a0 - (10 : Int32))) + a1).toNatClampNeg)) hx hb hr (fun t ht hW => ⟨⟨(Le (((32 : Int32) * (a0 - (10 : Int32))) + a1).toNatClampNeg), (), rfl, by rw [hf], by rw [hf]; show va_P (dC, dI) vwCl _ t.heap; rw [ht]; exact hP⟩, hS.F ht⟩) hS.2.2 dX6_told_95
        · exact absurd (by decide) c7
      · have hs := hs.1 c6
        refine lv_iconst (v := 2) hx hb dX6_told_42 (by decide) ?_
        refine lv_goto (tgt := 47) hx hb dX6_told_43 (by decide) ?_
        refine va_put (D := (dC, dI)) (ci := 8) (v := .int (2 : Int32)) (ty := .int) (C := RX6) (T := TX6) (N := 24) hx hb hts iW_X6 tyX6 tyX6_ok nmX6 hown hK hP (fA_D hi rfl) hS 0 rfl rfl 0 (by decide) (hts _ mF_RX6_61) (fun _ h9 => h9) rfl (by decide +kernel) rfl rfl (Nat.le_of_ble_eq_true rfl) dX6_told_47 (fun H locs hP _ hS => ?_)
        have hP : va_P (dC, dI) vwCl (wM ad cI cJ (2 : Int32) Ce Le De Ke Kc Ko Kl Kd Ug Ur Va To Tt Td Go Gg Ga Be Bt Si Te Bz Bk) H := hP
        refine lv_aload_n hx hb dX6_told_50 rfl (lv_at hl 1 rfl) ?_
        refine va_get (D := (dC, dI)) (ci := 8) (v := .int (2 : Int32)) (C := RX6) (T := TX6) (N := 24) hx hb hts iW_X6 hown hK hP 0 rfl rfl 0 (by decide) (hts _ mF_RX6_61) (fun _ h9 => h9) rfl dX6_told_51 ?_
        refine lv_if_le (tgt := 59) hx hb dX6_told_54 (by decide) (fun c10 => ?_) (fun c10 => ?_)
        · exact absurd c10 (by decide)
        · refine lv_iconst (v := 0) hx hb dX6_told_57 (by decide) ?_
          rw [hQ9]
          have hf : f_X6_told a0 a1 Th Le De Ke = ((0 : Int32), (2 : Int32)) := by simp only [f_X6_told, if_neg c1, if_neg c2, if_pos c6]
          exact W.iret (v := (0 : Int32)) hx hb hr (fun t ht hW => ⟨⟨(0 : Int32), (), rfl, by rw [hf], by rw [hf]; show va_P (dC, dI) vwCl _ t.heap; rw [ht]; exact hP⟩, hS.F ht⟩) hS.2.2 dX6_told_58
  · have hs := hs.1 c1
    refine lv_iload_n hx hb dX6_told_23 rfl (lv_at hl 0 rfl) ?_
    refine lv_if_ne (tgt := 31) hx hb dX6_told_24 (by decide) (fun c11 => ?_) (fun c11 => ?_)
    · have hs := hs.2 c11
      refine lv_iload_n hx hb dX6_told_31 rfl (lv_at hl 0 rfl) ?_
      refine lv_if_eq (tgt := 46) hx hb dX6_told_32 (by decide) (fun c12 => ?_) (fun c12 => ?_)
      · exact absurd c12 c11
      · refine lv_iload_n hx hb dX6_told_35 rfl (lv_at hl 3 rfl) ?_
        refine q_X6_isRegister hx hb hml hown hts mM_RX6_114 ⟨Nat.le_of_ble_eq_true rfl, Nat.le_of_ble_eq_true rfl⟩ ⟨Nat.le_of_ble_eq_true rfl, Nat.le_of_ble_eq_true rfl⟩ hl.1 (Nat.le_of_ble_eq_true rfl) hS dX6_told_36 hA a1 (fun locs hS => ?_)
        refine lv_if_ne (tgt := 46) hx hb dX6_told_39 (by decide) (fun c13 => ?_) (fun c13 => ?_)
        · have hs := hs.2 c13
          refine lv_iconst (v := 0) hx hb dX6_told_46 (by decide) ?_
          refine va_put (D := (dC, dI)) (ci := 8) (v := .int (0 : Int32)) (ty := .int) (C := RX6) (T := TX6) (N := 24) hx hb hts iW_X6 tyX6 tyX6_ok nmX6 hown hK hP (fA_D hi rfl) hS 0 rfl rfl 0 (by decide) (hts _ mF_RX6_61) (fun _ h9 => h9) rfl (by decide +kernel) rfl rfl (Nat.le_of_ble_eq_true rfl) dX6_told_47 (fun H locs hP _ hS => ?_)
          have hP : va_P (dC, dI) vwCl (wM ad cI cJ (0 : Int32) Ce Le De Ke Kc Ko Kl Kd Ug Ur Va To Tt Td Go Gg Ga Be Bt Si Te Bz Bk) H := hP
          refine lv_aload_n hx hb dX6_told_50 rfl (lv_at hl 1 rfl) ?_
          refine va_get (D := (dC, dI)) (ci := 8) (v := .int (0 : Int32)) (C := RX6) (T := TX6) (N := 24) hx hb hts iW_X6 hown hK hP 0 rfl rfl 0 (by decide) (hts _ mF_RX6_61) (fun _ h9 => h9) rfl dX6_told_51 ?_
          refine lv_if_le (tgt := 59) hx hb dX6_told_54 (by decide) (fun c14 => ?_) (fun c14 => ?_)
          · refine lv_iload_n hx hb dX6_told_59 rfl (lv_at hl 0 rfl) ?_
            refine lv_if_eq (tgt := 80) hx hb dX6_told_60 (by decide) (fun c15 => ?_) (fun c15 => ?_)
            · exact absurd c15 c12
            · refine lv_aload_n hx hb dX6_told_63 rfl (lv_at hl 1 rfl) ?_
              refine va_get (D := (dC, dI)) (ci := 8) (v := .ref (ad 2)) (C := RX6) (T := TX6) (N := 24) hx hb hts iW_X6 hown hK hP 0 rfl rfl 2 (by decide) (hts _ mF_RX6_13) (fun _ h9 => h9) rfl dX6_told_64 ?_
              refine lv_bipush (v := 32) hx hb dX6_told_67 (by decide) ?_
              refine lv_iload_n hx hb dX6_told_69 rfl (lv_at hl 2 rfl) ?_
              refine lv_bipush (v := 10) hx hb dX6_told_70 (by decide) ?_
              refine lv_isub hx hb dX6_told_72 ?_
              refine lv_imul hx hb dX6_told_73 ?_
              refine lv_iload_n hx hb dX6_told_74 rfl (lv_at hl 3 rfl) ?_
              refine lv_iadd hx hb dX6_told_75 ?_
              obtain ⟨h16, hs⟩ := hs
              refine va_iald hx hb hK hP 2 0 rfl rfl h16 dX6_told_76 ?_
              refine lv_goto (tgt := 95) hx hb dX6_told_77 (by decide) ?_
              rw [hQ9]
              have hf : f_X6_told a0 a1 Th Le De Ke = ((Le (((32 : Int32) * (a0 - (10 : Int32))) + a1).toNatClampNeg), (0 : Int32)) := by simp only [f_X6_told, if_pos c1, if_neg c11, if_neg c13]
              exact W.iret (v := (Le (((32 : Int32) * (a0 - (10 : Int32))) + a1).toNatClampNeg)) hx hb hr (fun t ht hW => ⟨⟨(Le (((32 : Int32) * (a0 - (10 : Int32))) + a1).toNatClampNeg), (), rfl, by rw [hf], by rw [hf]; show va_P (dC, dI) vwCl _ t.heap; rw [ht]; exact hP⟩, hS.F ht⟩) hS.2.2 dX6_told_95
          · exact absurd (by decide) c14
        · have hs := hs.1 c13
          refine lv_iconst (v := 2) hx hb dX6_told_42 (by decide) ?_
          refine lv_goto (tgt := 47) hx hb dX6_told_43 (by decide) ?_
          refine va_put (D := (dC, dI)) (ci := 8) (v := .int (2 : Int32)) (ty := .int) (C := RX6) (T := TX6) (N := 24) hx hb hts iW_X6 tyX6 tyX6_ok nmX6 hown hK hP (fA_D hi rfl) hS 0 rfl rfl 0 (by decide) (hts _ mF_RX6_61) (fun _ h9 => h9) rfl (by decide +kernel) rfl rfl (Nat.le_of_ble_eq_true rfl) dX6_told_47 (fun H locs hP _ hS => ?_)
          have hP : va_P (dC, dI) vwCl (wM ad cI cJ (2 : Int32) Ce Le De Ke Kc Ko Kl Kd Ug Ur Va To Tt Td Go Gg Ga Be Bt Si Te Bz Bk) H := hP
          refine lv_aload_n hx hb dX6_told_50 rfl (lv_at hl 1 rfl) ?_
          refine va_get (D := (dC, dI)) (ci := 8) (v := .int (2 : Int32)) (C := RX6) (T := TX6) (N := 24) hx hb hts iW_X6 hown hK hP 0 rfl rfl 0 (by decide) (hts _ mF_RX6_61) (fun _ h9 => h9) rfl dX6_told_51 ?_
          refine lv_if_le (tgt := 59) hx hb dX6_told_54 (by decide) (fun c17 => ?_) (fun c17 => ?_)
          · exact absurd c17 (by decide)
          · refine lv_iconst (v := 0) hx hb dX6_told_57 (by decide) ?_
            rw [hQ9]
            have hf : f_X6_told a0 a1 Th Le De Ke = ((0 : Int32), (2 : Int32)) := by simp only [f_X6_told, if_pos c1, if_neg c11, if_pos c13]
            exact W.iret (v := (0 : Int32)) hx hb hr (fun t ht hW => ⟨⟨(0 : Int32), (), rfl, by rw [hf], by rw [hf]; show va_P (dC, dI) vwCl _ t.heap; rw [ht]; exact hP⟩, hS.F ht⟩) hS.2.2 dX6_told_58
    · have hs := hs.1 c11
      refine lv_iconst (v := 1) hx hb dX6_told_27 (by decide) ?_
      refine lv_goto (tgt := 47) hx hb dX6_told_28 (by decide) ?_
      refine va_put (D := (dC, dI)) (ci := 8) (v := .int (1 : Int32)) (ty := .int) (C := RX6) (T := TX6) (N := 24) hx hb hts iW_X6 tyX6 tyX6_ok nmX6 hown hK hP (fA_D hi rfl) hS 0 rfl rfl 0 (by decide) (hts _ mF_RX6_61) (fun _ h9 => h9) rfl (by decide +kernel) rfl rfl (Nat.le_of_ble_eq_true rfl) dX6_told_47 (fun H locs hP _ hS => ?_)
      have hP : va_P (dC, dI) vwCl (wM ad cI cJ (1 : Int32) Ce Le De Ke Kc Ko Kl Kd Ug Ur Va To Tt Td Go Gg Ga Be Bt Si Te Bz Bk) H := hP
      refine lv_aload_n hx hb dX6_told_50 rfl (lv_at hl 1 rfl) ?_
      refine va_get (D := (dC, dI)) (ci := 8) (v := .int (1 : Int32)) (C := RX6) (T := TX6) (N := 24) hx hb hts iW_X6 hown hK hP 0 rfl rfl 0 (by decide) (hts _ mF_RX6_61) (fun _ h9 => h9) rfl dX6_told_51 ?_
      refine lv_if_le (tgt := 59) hx hb dX6_told_54 (by decide) (fun c18 => ?_) (fun c18 => ?_)
      · exact absurd c18 (by decide)
      · refine lv_iconst (v := 0) hx hb dX6_told_57 (by decide) ?_
        rw [hQ9]
        have hf : f_X6_told a0 a1 Th Le De Ke = ((0 : Int32), (1 : Int32)) := by simp only [f_X6_told, if_pos c1, if_pos c11]
        exact W.iret (v := (0 : Int32)) hx hb hr (fun t ht hW => ⟨⟨(0 : Int32), (), rfl, by rw [hf], by rw [hf]; show va_P (dC, dI) vwCl _ t.heap; rw [ht]; exact hP⟩, hS.F ht⟩) hS.2.2 dX6_told_58
theorem q_X6_told {p : Program} {l : Launch} {e : Env} {R : Room} {s : State} {m : MethodId} {args : Array Value} {below : List Frame} {meth : Method} {c : Code} {H : Heap} {locs : List Loc} {cells slots : Nat} {Q : State → Prop} {pc : Nat} {ls : Array Slot} {rest : List Value} {cc : ByteArray} {nL idx : Nat} {own : String} {A0 : Nat → Prop} {dC : Nat → ClassId} {dI : Nat → Nat → Nat} {cI cJ : ClassId} {ad : Nat → Nat} {Th : Int32} {Ce : Nat → Int64} {Le : Nat → Int32} {De : Int32} {Ke : Int32} {Kc : Nat → Int64} {Ko : Nat → Int32} {Kl : Nat → Int32} {Kd : Nat → Int32} {Ug : Nat → Int64} {Ur : Nat → Int64} {Va : Nat → Int64} {To : Int32} {Tt : Nat → Int32} {Td : Nat → Int32} {Go : Int32} {Gg : Nat → Int32} {Ga : Nat → Int32} {Be : Int32} {Bt : Nat → Int32} {Si : Int32} {Te : Nat → Int32} {Bz : Int32} {Bk : Nat → Int32} (hx : p.tables.exec = Jvm.exec) (hb : c.code = cc) (hml : c.maxLocals = nL) (hown : s.vm.findClass own = some m.cls) (hts : ∀ w ∈ bigW, w.before args s = true) (hlk : Cond.methodLink own idx yX6_told ∈ bigW) (hR : 3 ≤ R.frames ∧ 68 ≤ R.locals) (hf : cells + 0 ≤ R.cells ∧ slots + 0 ≤ R.slots) (hz : ls.size = nL) (hw : (rest.map fun v => v.category).sum ≤ 8) (hS : va_S A0 s.heap H locs) (hd : decode cc pc = .ok (.invokevirtual idx, 3)) (hA : ∀ q, fA 17 ad H.size q → A0 q) (hi : fI 17 ad) (hK : va_K (dC, dI) vwCl [(cI, .int), (cJ, .long)] s) (hP : va_P (dC, dI) vwCl (wM ad cI cJ Th Ce Le De Ke Kc Ko Kl Kd Ug Ur Va To Tt Td Go Gg Ga Be Bt Si Te Bz Bk) H) (a0 : Int32) (a1 : Int32) (hs : S_X6_told a0 a1 Th Le De Ke)  (u : Int32 × Int32) (hu : u = f_X6_told a0 a1 Th Le De Ke) (k : ∀ (H1 : Heap) (locs1 : List Loc), va_P (dC, dI) vwCl (wM ad cI cJ u.2 Ce Le De Ke Kc Ko Kl Kd Ug Ur Va To Tt Td Go Gg Ga Be Bt Si Te Bz Bk) H1 → va_S A0 s.heap H1 locs1 → W p l e R s m args below meth c H1 locs1 (cells + 0) (slots + 0) Q (F0 m (pc + 3) ls (.int u.1 :: rest))) : W p l e R s m args below meth c H locs cells slots Q (F0 m pc ls (.int a1 :: .int a0 :: .ref (ad 0) :: rest)) := by
  subst hu
  exact va_calli (va_runV (As := [.int a0, .int a1]) (rest := rest) ⟨hx, hb, hml, hown, hts⟩ (c_X6_told l dC dI cI cJ ad hi H.size Th Ce Le De Ke Kc Ko Kl Kd Ug Ur Va To Tt Td Go Gg Ga Be Bt Si Te Bz Bk a0 a1 hs) (kV 2 hts hlk mI_X6_told mN_RX6 mY_X6_told mV_X6_told rfl rfl (by decide +kernel) hR) ⟨fun a U g mk q => ⟨q.1, q.2.1, q.2.2.1, va_K.moved (u := U) (U := U.calling g mk a) (Vm.Alike.refl U.vm) q.2.2.2⟩, va_recv hK hP (ci := 8) (q0 := 0) rfl rfl, fun U hU hW => ⟨rfl, by rw [hU], by rw [hU]; exact hP, va_K.moved hW.alike hK⟩⟩ rfl rfl hz rfl (lv_room hw) hd hf) hS (fun q _ h => hA q h) (fun q h => hA q h) (fun r u t H1 locs1 ht hvm hw9 hB hz1 hk1 hS1 => by
    subst hw9
    exact k H1 locs1 (by rw [← ht]; exact hB) hS1)
theorem qf_X6_told {p : Program} {l : Launch} {e : Env} {R : Room} {s : State} {m : MethodId} {args : Array Value} {below : List Frame} {meth : Method} {c : Code} {H : Heap} {locs : List Loc} {cells slots : Nat} {Q : State → Prop} {pc : Nat} {ls : Array Slot} {rest : List Value} {cc : ByteArray} {nL idx : Nat} {own : String} {A0 : Nat → Prop} {dC : Nat → ClassId} {dI : Nat → Nat → Nat} {cI cJ : ClassId} {ad : Nat → Nat} {Th : Int32} {Ce : Nat → Int64} {Le : Nat → Int32} {De : Int32} {Ke : Int32} {Kc : Nat → Int64} {Ko : Nat → Int32} {Kl : Nat → Int32} {Kd : Nat → Int32} {Ug : Nat → Int64} {Ur : Nat → Int64} {Va : Nat → Int64} {To : Int32} {Tt : Nat → Int32} {Td : Nat → Int32} {Go : Int32} {Gg : Nat → Int32} {Ga : Nat → Int32} {Be : Int32} {Bt : Nat → Int32} {Si : Int32} {Te : Nat → Int32} {Bz : Int32} {Bk : Nat → Int32} (hx : p.tables.exec = Jvm.exec) (hb : c.code = cc) (hml : c.maxLocals = nL) (hown : s.vm.findClass own = some m.cls) (hts : ∀ w ∈ bigW, w.before args s = true) (hlk : Cond.methodLink own idx yX6_told ∈ bigW) (hR : 3 ≤ R.frames ∧ 68 ≤ R.locals) (hf : cells + 0 ≤ R.cells ∧ slots + 0 ≤ R.slots) (hz : ls.size = nL) (hw : (rest.map fun v => v.category).sum ≤ 8) (hS : va_S A0 s.heap H locs) (hd : decode cc pc = .ok (.invokevirtual idx, 3)) (hA : ∀ q, fA 17 ad H.size q → A0 q) (hi : fI 17 ad) (hK : va_K (dC, dI) vwCl [(cI, .int), (cJ, .long)] s) (hP : va_P (dC, dI) vwCl (wM ad cI cJ Th Ce Le De Ke Kc Ko Kl Kd Ug Ur Va To Tt Td Go Gg Ga Be Bt Si Te Bz Bk) H) (a0 : Int32) (a1 : Int32) (hs : S_X6_told a0 a1 Th Le De Ke)  (u : Int32 × Int32) (hu : u = f_X6_told a0 a1 Th Le De Ke) (k : ∀ (H1 : Heap) (locs1 : List Loc), va_P (dC, dI) vwCl (wM ad cI cJ u.2 Ce Le De Ke Kc Ko Kl Kd Ug Ur Va To Tt Td Go Gg Ga Be Bt Si Te Bz Bk) H1 → va_S A0 s.heap H1 locs1 → (∀ q : Nat, q < H.size → ¬ fA 17 ad H.size q → H1[q]? = H[q]?) → H.size ≤ H1.size → W p l e R s m args below meth c H1 locs1 (cells + 0) (slots + 0) Q (F0 m (pc + 3) ls (.int u.1 :: rest))) : W p l e R s m args below meth c H locs cells slots Q (F0 m pc ls (.int a1 :: .int a0 :: .ref (ad 0) :: rest)) := by
  subst hu
  exact va_calli (va_runV (As := [.int a0, .int a1]) (rest := rest) ⟨hx, hb, hml, hown, hts⟩ (c_X6_told l dC dI cI cJ ad hi H.size Th Ce Le De Ke Kc Ko Kl Kd Ug Ur Va To Tt Td Go Gg Ga Be Bt Si Te Bz Bk a0 a1 hs) (kV 2 hts hlk mI_X6_told mN_RX6 mY_X6_told mV_X6_told rfl rfl (by decide +kernel) hR) ⟨fun a U g mk q => ⟨q.1, q.2.1, q.2.2.1, va_K.moved (u := U) (U := U.calling g mk a) (Vm.Alike.refl U.vm) q.2.2.2⟩, va_recv hK hP (ci := 8) (q0 := 0) rfl rfl, fun U hU hW => ⟨rfl, by rw [hU], by rw [hU]; exact hP, va_K.moved hW.alike hK⟩⟩ rfl rfl hz rfl (lv_room hw) hd hf) hS (fun q _ h => hA q h) (fun q h => hA q h) (fun r u t H1 locs1 ht hvm hw9 hB hz1 hk1 hS1 => by
    subst hw9
    exact k H1 locs1 (by rw [← ht]; exact hB) hS1 hk1 hz1)

def f_X6_upOf (a0 : Int32) : Int64 := (if a0 = 0 then (1 : Int64) else (if a0 = (2 : Int32) then (12 : Int64) else (if a0 = (6 : Int32) then (1238 : Int64) else (if a0 = (7 : Int32) then (14856 : Int64) else (7227 : Int64)))))
set_option maxHeartbeats 4000000 in
set_option maxRecDepth 100000 in
theorem c_X6_upOf (l : Launch) (hp : Heap) (a0 : Int32) : Met l yX6_upOf (mW yX6_upOf cX6_upOf 1 (some .long)) { frames := 0, cells := 0, slots := 0, locals := 0 } (va_Pc [.int a0] (fun U => U.heap = hp)) (va_Ql (fun (r : Int64) (_ : Unit) => r = f_X6_upOf a0) (fun _ t => t.heap = hp) (fun q : Nat => hp.size ≤ q)) 0 0 (fun q : Nat => hp.size ≤ q) := by
  refine Met.ofW (cc := cX6_upOf) (maxL := 1) (ret := (some .long)) (by decide) rfl ?_
  intro p e s m args below meth c s₁ B hml hv
  obtain ⟨rfl, hh⟩ := hv
  have hx := B.exec
  have hb := B.bytes
  have hr := B.returns
  have hts := mW_hts (atoms_spec (ws := (mW yX6_upOf cX6_upOf 1 (some .long))) B.pre)
  have hown : s.vm.findClass RX6 = some m.cls := findClass_of_methodNamed B.named
  have hlocks := B.notSynchronized
  subst hh
  have hA : ∀ (n : Nat) (q : Nat), s.heap.size ≤ n → n ≤ q → s.heap.size ≤ q := fun n q h1 h2 => Nat.le_trans h1 h2
  have hS : va_S ((fun q : Nat => s.heap.size ≤ q)) s.heap s.heap [] := va_S.rf
  have hA : ∀ q, s.heap.size ≤ q → ((fun q : Nat => s.heap.size ≤ q)) q := fun q h => h
  have hl := lv_entry ([.int a0]) (n := 1) (Nat.le_of_ble_eq_true rfl)
  rw [lg_entry_eq]
  generalize (lg_sl ([.int a0]) ++ List.replicate (1 - (lg_sl ([.int a0])).length) Slot.unset).toArray = ls at hl ⊢
  have hl : lv_has ls 1 [(0, .int a0)] := hl
  refine W_gen (fun Q9 hQ9 => ?_)
  refine lv_iload_n hx hb dX6_upOf_0 rfl (lv_at hl 0 rfl) ?_
  refine lv_if_ne (tgt := 6) hx hb dX6_upOf_1 (by decide) (fun c1 => ?_) (fun c1 => ?_)
  · refine lv_iload_n hx hb dX6_upOf_6 rfl (lv_at hl 0 rfl) ?_
    refine lv_iconst (v := 2) hx hb dX6_upOf_7 (by decide) ?_
    refine lv_icmp_ne (tgt := 15) hx hb dX6_upOf_8 (by decide) (fun c2 => ?_) (fun c2 => ?_)
    · refine lv_iload_n hx hb dX6_upOf_15 rfl (lv_at hl 0 rfl) ?_
      refine lv_bipush (v := 6) hx hb dX6_upOf_16 (by decide) ?_
      refine lv_icmp_ne (tgt := 27) hx hb dX6_upOf_18 (by decide) (fun c3 => ?_) (fun c3 => ?_)
      · refine lv_iload_n hx hb dX6_upOf_27 rfl (lv_at hl 0 rfl) ?_
        refine lv_bipush (v := 7) hx hb dX6_upOf_28 (by decide) ?_
        refine lv_icmp_ne (tgt := 39) hx hb dX6_upOf_30 (by decide) (fun c4 => ?_) (fun c4 => ?_)
        · refine lv_ldc2 hx hb hown (hts _ mK_RX6_157) dX6_upOf_39 ?_
          rw [hQ9]
          have hf : f_X6_upOf a0 = (7227 : Int64) := by simp only [f_X6_upOf, if_neg c1, if_neg c2, if_neg c3, if_neg c4]
          exact W.lret (v := (7227 : Int64)) hx hb hr (fun t ht hW => ⟨⟨(7227 : Int64), (), rfl, by rw [hf], ht⟩, hS.F ht⟩) hS.2.2 dX6_upOf_42
        · refine lv_ldc2 hx hb hown (hts _ mK_RX6_155) dX6_upOf_33 ?_
          refine lv_goto (tgt := 42) hx hb dX6_upOf_36 (by decide) ?_
          rw [hQ9]
          have hf : f_X6_upOf a0 = (14856 : Int64) := by simp only [f_X6_upOf, if_neg c1, if_neg c2, if_neg c3, if_pos c4]
          exact W.lret (v := (14856 : Int64)) hx hb hr (fun t ht hW => ⟨⟨(14856 : Int64), (), rfl, by rw [hf], ht⟩, hS.F ht⟩) hS.2.2 dX6_upOf_42
      · refine lv_ldc2 hx hb hown (hts _ mK_RX6_153) dX6_upOf_21 ?_
        refine lv_goto (tgt := 42) hx hb dX6_upOf_24 (by decide) ?_
        rw [hQ9]
        have hf : f_X6_upOf a0 = (1238 : Int64) := by simp only [f_X6_upOf, if_neg c1, if_neg c2, if_pos c3]
        exact W.lret (v := (1238 : Int64)) hx hb hr (fun t ht hW => ⟨⟨(1238 : Int64), (), rfl, by rw [hf], ht⟩, hS.F ht⟩) hS.2.2 dX6_upOf_42
    · refine lv_ldc2 hx hb hown (hts _ mK_RX6_151) dX6_upOf_11 ?_
      rw [hQ9]
      have hf : f_X6_upOf a0 = (12 : Int64) := by simp only [f_X6_upOf, if_neg c1, if_pos c2]
      exact W.lret (v := (12 : Int64)) hx hb hr (fun t ht hW => ⟨⟨(12 : Int64), (), rfl, by rw [hf], ht⟩, hS.F ht⟩) hS.2.2 dX6_upOf_14
  · refine lv_lconst (v := 1) hx hb dX6_upOf_4 (by decide) ?_
    rw [hQ9]
    have hf : f_X6_upOf a0 = (1 : Int64) := by simp only [f_X6_upOf, if_pos c1]
    exact W.lret (v := (1 : Int64)) hx hb hr (fun t ht hW => ⟨⟨(1 : Int64), (), rfl, by rw [hf], ht⟩, hS.F ht⟩) hS.2.2 dX6_upOf_5
theorem q_X6_upOf {p : Program} {l : Launch} {e : Env} {R : Room} {s : State} {m : MethodId} {args : Array Value} {below : List Frame} {meth : Method} {c : Code} {H : Heap} {locs : List Loc} {cells slots : Nat} {Q : State → Prop} {pc : Nat} {ls : Array Slot} {rest : List Value} {cc : ByteArray} {nL idx : Nat} {own : String} {A0 : Nat → Prop} (hx : p.tables.exec = Jvm.exec) (hb : c.code = cc) (hml : c.maxLocals = nL) (hown : s.vm.findClass own = some m.cls) (hts : ∀ w ∈ bigW, w.before args s = true) (hlk : Cond.methodLink own idx yX6_upOf ∈ bigW) (hR : 1 ≤ R.frames ∧ 20 ≤ R.locals) (hf : cells + 0 ≤ R.cells ∧ slots + 0 ≤ R.slots) (hz : ls.size = nL) (hw : (rest.map fun v => v.category).sum ≤ 8) (hS : va_S A0 s.heap H locs) (hd : decode cc pc = .ok (.invokestatic idx, 3)) (hA : ∀ q, s.heap.size ≤ q → A0 q) (a0 : Int32) (k : ∀ locs, va_S A0 s.heap H locs → W p l e R s m args below meth c H locs cells slots Q (F0 m (pc + 3) ls (.long (f_X6_upOf a0) :: rest))) : W p l e R s m args below meth c H locs cells slots Q (F0 m pc ls (.int a0 :: rest)) :=
  va_calll (va_runS (As := [.int a0]) (rest := rest) ⟨hx, hb, hml, hown, hts⟩ (c_X6_upOf l H a0) (kS 1 hts hlk mS_X6_upOf mN_RX6 mY_X6_upOf rfl rfl (by decide +kernel) hR) ⟨fun a U g mk q => q, fun U hU hW => ⟨rfl, hU⟩⟩ rfl rfl hz rfl (lv_room hw) hd hf) hS (fun q h1 h2 => absurd h1 (Nat.not_lt.mpr h2)) (fun q h => hA q (Nat.le_trans hS.1 h)) (fun r u t H1 locs1 ht hvm hw9 hB hz1 hk1 hS1 => by
    have e : H1 = H := by rw [← ht]; exact hB
    subst e; subst hw9
    exact k locs1 hS1)

def f_X6_lowOf (a0 : Int32) : Int64 := (if a0 = 0 then (1 : Int64) else (if a0 = (2 : Int32) then (1 : Int64) else (if a0 = (1 : Int32) then (100 : Int64) else (if a0 = (3 : Int32) then (254 : Int64) else (if a0 = (4 : Int32) then (2540 : Int64) else (if a0 = (5 : Int32) then (7200 : Int64) else (1157 : Int64)))))))
set_option maxHeartbeats 4000000 in
set_option maxRecDepth 100000 in
theorem c_X6_lowOf (l : Launch) (hp : Heap) (a0 : Int32) : Met l yX6_lowOf (mW yX6_lowOf cX6_lowOf 1 (some .long)) { frames := 0, cells := 0, slots := 0, locals := 0 } (va_Pc [.int a0] (fun U => U.heap = hp)) (va_Ql (fun (r : Int64) (_ : Unit) => r = f_X6_lowOf a0) (fun _ t => t.heap = hp) (fun q : Nat => hp.size ≤ q)) 0 0 (fun q : Nat => hp.size ≤ q) := by
  refine Met.ofW (cc := cX6_lowOf) (maxL := 1) (ret := (some .long)) (by decide) rfl ?_
  intro p e s m args below meth c s₁ B hml hv
  obtain ⟨rfl, hh⟩ := hv
  have hx := B.exec
  have hb := B.bytes
  have hr := B.returns
  have hts := mW_hts (atoms_spec (ws := (mW yX6_lowOf cX6_lowOf 1 (some .long))) B.pre)
  have hown : s.vm.findClass RX6 = some m.cls := findClass_of_methodNamed B.named
  have hlocks := B.notSynchronized
  subst hh
  have hA : ∀ (n : Nat) (q : Nat), s.heap.size ≤ n → n ≤ q → s.heap.size ≤ q := fun n q h1 h2 => Nat.le_trans h1 h2
  have hS : va_S ((fun q : Nat => s.heap.size ≤ q)) s.heap s.heap [] := va_S.rf
  have hA : ∀ q, s.heap.size ≤ q → ((fun q : Nat => s.heap.size ≤ q)) q := fun q h => h
  have hl := lv_entry ([.int a0]) (n := 1) (Nat.le_of_ble_eq_true rfl)
  rw [lg_entry_eq]
  generalize (lg_sl ([.int a0]) ++ List.replicate (1 - (lg_sl ([.int a0])).length) Slot.unset).toArray = ls at hl ⊢
  have hl : lv_has ls 1 [(0, .int a0)] := hl
  refine W_gen (fun Q9 hQ9 => ?_)
  refine lv_iload_n hx hb dX6_lowOf_0 rfl (lv_at hl 0 rfl) ?_
  refine lv_if_eq (tgt := 9) hx hb dX6_lowOf_1 (by decide) (fun c1 => ?_) (fun c1 => ?_)
  · refine lv_lconst (v := 1) hx hb dX6_lowOf_9 (by decide) ?_
    rw [hQ9]
    have hf : f_X6_lowOf a0 = (1 : Int64) := by simp only [f_X6_lowOf, if_pos c1]
    exact W.lret (v := (1 : Int64)) hx hb hr (fun t ht hW => ⟨⟨(1 : Int64), (), rfl, by rw [hf], ht⟩, hS.F ht⟩) hS.2.2 dX6_lowOf_10
  · refine lv_iload_n hx hb dX6_lowOf_4 rfl (lv_at hl 0 rfl) ?_
    refine lv_iconst (v := 2) hx hb dX6_lowOf_5 (by decide) ?_
    refine lv_icmp_ne (tgt := 11) hx hb dX6_lowOf_6 (by decide) (fun c2 => ?_) (fun c2 => ?_)
    · refine lv_iload_n hx hb dX6_lowOf_11 rfl (lv_at hl 0 rfl) ?_
      refine lv_iconst (v := 1) hx hb dX6_lowOf_12 (by decide) ?_
      refine lv_icmp_ne (tgt := 20) hx hb dX6_lowOf_13 (by decide) (fun c3 => ?_) (fun c3 => ?_)
      · refine lv_iload_n hx hb dX6_lowOf_20 rfl (lv_at hl 0 rfl) ?_
        refine lv_iconst (v := 3) hx hb dX6_lowOf_21 (by decide) ?_
        refine lv_icmp_ne (tgt := 31) hx hb dX6_lowOf_22 (by decide) (fun c4 => ?_) (fun c4 => ?_)
        · refine lv_iload_n hx hb dX6_lowOf_31 rfl (lv_at hl 0 rfl) ?_
          refine lv_iconst (v := 4) hx hb dX6_lowOf_32 (by decide) ?_
          refine lv_icmp_ne (tgt := 42) hx hb dX6_lowOf_33 (by decide) (fun c5 => ?_) (fun c5 => ?_)
          · refine lv_iload_n hx hb dX6_lowOf_42 rfl (lv_at hl 0 rfl) ?_
            refine lv_iconst (v := 5) hx hb dX6_lowOf_43 (by decide) ?_
            refine lv_icmp_ne (tgt := 53) hx hb dX6_lowOf_44 (by decide) (fun c6 => ?_) (fun c6 => ?_)
            · refine lv_ldc2 hx hb hown (hts _ mK_RX6_167) dX6_lowOf_53 ?_
              rw [hQ9]
              have hf : f_X6_lowOf a0 = (1157 : Int64) := by simp only [f_X6_lowOf, if_neg c1, if_neg c2, if_neg c3, if_neg c4, if_neg c5, if_neg c6]
              exact W.lret (v := (1157 : Int64)) hx hb hr (fun t ht hW => ⟨⟨(1157 : Int64), (), rfl, by rw [hf], ht⟩, hS.F ht⟩) hS.2.2 dX6_lowOf_56
            · refine lv_ldc2 hx hb hown (hts _ mK_RX6_165) dX6_lowOf_47 ?_
              refine lv_goto (tgt := 56) hx hb dX6_lowOf_50 (by decide) ?_
              rw [hQ9]
              have hf : f_X6_lowOf a0 = (7200 : Int64) := by simp only [f_X6_lowOf, if_neg c1, if_neg c2, if_neg c3, if_neg c4, if_neg c5, if_pos c6]
              exact W.lret (v := (7200 : Int64)) hx hb hr (fun t ht hW => ⟨⟨(7200 : Int64), (), rfl, by rw [hf], ht⟩, hS.F ht⟩) hS.2.2 dX6_lowOf_56
          · refine lv_ldc2 hx hb hown (hts _ mK_RX6_163) dX6_lowOf_36 ?_
            refine lv_goto (tgt := 56) hx hb dX6_lowOf_39 (by decide) ?_
            rw [hQ9]
            have hf : f_X6_lowOf a0 = (2540 : Int64) := by simp only [f_X6_lowOf, if_neg c1, if_neg c2, if_neg c3, if_neg c4, if_pos c5]
            exact W.lret (v := (2540 : Int64)) hx hb hr (fun t ht hW => ⟨⟨(2540 : Int64), (), rfl, by rw [hf], ht⟩, hS.F ht⟩) hS.2.2 dX6_lowOf_56
        · refine lv_ldc2 hx hb hown (hts _ mK_RX6_161) dX6_lowOf_25 ?_
          refine lv_goto (tgt := 56) hx hb dX6_lowOf_28 (by decide) ?_
          rw [hQ9]
          have hf : f_X6_lowOf a0 = (254 : Int64) := by simp only [f_X6_lowOf, if_neg c1, if_neg c2, if_neg c3, if_pos c4]
          exact W.lret (v := (254 : Int64)) hx hb hr (fun t ht hW => ⟨⟨(254 : Int64), (), rfl, by rw [hf], ht⟩, hS.F ht⟩) hS.2.2 dX6_lowOf_56
      · refine lv_ldc2 hx hb hown (hts _ mK_RX6_159) dX6_lowOf_16 ?_
        rw [hQ9]
        have hf : f_X6_lowOf a0 = (100 : Int64) := by simp only [f_X6_lowOf, if_neg c1, if_neg c2, if_pos c3]
        exact W.lret (v := (100 : Int64)) hx hb hr (fun t ht hW => ⟨⟨(100 : Int64), (), rfl, by rw [hf], ht⟩, hS.F ht⟩) hS.2.2 dX6_lowOf_19
    · refine lv_lconst (v := 1) hx hb dX6_lowOf_9 (by decide) ?_
      rw [hQ9]
      have hf : f_X6_lowOf a0 = (1 : Int64) := by simp only [f_X6_lowOf, if_neg c1, if_pos c2]
      exact W.lret (v := (1 : Int64)) hx hb hr (fun t ht hW => ⟨⟨(1 : Int64), (), rfl, by rw [hf], ht⟩, hS.F ht⟩) hS.2.2 dX6_lowOf_10
theorem q_X6_lowOf {p : Program} {l : Launch} {e : Env} {R : Room} {s : State} {m : MethodId} {args : Array Value} {below : List Frame} {meth : Method} {c : Code} {H : Heap} {locs : List Loc} {cells slots : Nat} {Q : State → Prop} {pc : Nat} {ls : Array Slot} {rest : List Value} {cc : ByteArray} {nL idx : Nat} {own : String} {A0 : Nat → Prop} (hx : p.tables.exec = Jvm.exec) (hb : c.code = cc) (hml : c.maxLocals = nL) (hown : s.vm.findClass own = some m.cls) (hts : ∀ w ∈ bigW, w.before args s = true) (hlk : Cond.methodLink own idx yX6_lowOf ∈ bigW) (hR : 1 ≤ R.frames ∧ 20 ≤ R.locals) (hf : cells + 0 ≤ R.cells ∧ slots + 0 ≤ R.slots) (hz : ls.size = nL) (hw : (rest.map fun v => v.category).sum ≤ 8) (hS : va_S A0 s.heap H locs) (hd : decode cc pc = .ok (.invokestatic idx, 3)) (hA : ∀ q, s.heap.size ≤ q → A0 q) (a0 : Int32) (k : ∀ locs, va_S A0 s.heap H locs → W p l e R s m args below meth c H locs cells slots Q (F0 m (pc + 3) ls (.long (f_X6_lowOf a0) :: rest))) : W p l e R s m args below meth c H locs cells slots Q (F0 m pc ls (.int a0 :: rest)) :=
  va_calll (va_runS (As := [.int a0]) (rest := rest) ⟨hx, hb, hml, hown, hts⟩ (c_X6_lowOf l H a0) (kS 1 hts hlk mS_X6_lowOf mN_RX6 mY_X6_lowOf rfl rfl (by decide +kernel) hR) ⟨fun a U g mk q => q, fun U hU hW => ⟨rfl, hU⟩⟩ rfl rfl hz rfl (lv_room hw) hd hf) hS (fun q h1 h2 => absurd h1 (Nat.not_lt.mpr h2)) (fun q h => hA q (Nat.le_trans hS.1 h)) (fun r u t H1 locs1 ht hvm hw9 hB hz1 hk1 hS1 => by
    have e : H1 = H := by rw [← ht]; exact hB
    subst e; subst hw9
    exact k locs1 hS1)

def f_X6_scaled (a0 : Int32) (a1 : Int32) (a2 : Int32) (Th : Int32) : Int64 × Int32 := (if (f_X6_in a0.toInt64 (0 : Int64) (1073741823 : Int64)) = 0 then ((0 : Int64), (1 : Int32)) else (if (f_X6_in a1.toInt64 (0 : Int64) (65535 : Int64)) = 0 then ((0 : Int64), (1 : Int32)) else (if (f_X6_in a2.toInt64 (0 : Int64) (8 : Int64)) = 0 then ((0 : Int64), (1 : Int32)) else (if (8 : Int32) ≤ a2 then (if a0.toInt64 ≤ (1073741823 : Int64) then (a0.toInt64, (0 : Int32)) else ((-1 : Int64), (0 : Int32))) else (if (((65536 : Int64) * ((a0.toInt64 * (f_X6_upOf a2)) / (f_X6_lowOf a2))) + ((((f_X6_upOf a2) * a1.toInt64) + ((65536 : Int64) * ((a0.toInt64 * (f_X6_upOf a2)) - (a0.toInt64 * (f_X6_upOf a2)) / (f_X6_lowOf a2) * (f_X6_lowOf a2)))) / (f_X6_lowOf a2))) ≤ (1073741823 : Int64) then ((((65536 : Int64) * ((a0.toInt64 * (f_X6_upOf a2)) / (f_X6_lowOf a2))) + ((((f_X6_upOf a2) * a1.toInt64) + ((65536 : Int64) * ((a0.toInt64 * (f_X6_upOf a2)) - (a0.toInt64 * (f_X6_upOf a2)) / (f_X6_lowOf a2) * (f_X6_lowOf a2)))) / (f_X6_lowOf a2))), (0 : Int32)) else ((-1 : Int64), (0 : Int32)))))))
def S_X6_scaled (a0 : Int32) (a1 : Int32) (a2 : Int32) (Th : Int32) : Prop := ((f_X6_in a0.toInt64 (0 : Int64) (1073741823 : Int64)) = 0 → (True)) ∧ (¬ (f_X6_in a0.toInt64 (0 : Int64) (1073741823 : Int64)) = 0 → (((f_X6_in a1.toInt64 (0 : Int64) (65535 : Int64)) = 0 → (True)) ∧ (¬ (f_X6_in a1.toInt64 (0 : Int64) (65535 : Int64)) = 0 → (((f_X6_in a2.toInt64 (0 : Int64) (8 : Int64)) = 0 → (True)) ∧ (¬ (f_X6_in a2.toInt64 (0 : Int64) (8 : Int64)) = 0 → (((8 : Int32) ≤ a2 → ((a0.toInt64 ≤ (1073741823 : Int64) → (True)) ∧ (¬ a0.toInt64 ≤ (1073741823 : Int64) → (True)))) ∧ (¬ (8 : Int32) ≤ a2 → ((¬ (f_X6_lowOf a2) = 0) ∧ ((¬ (f_X6_lowOf a2) = 0) ∧ ((¬ (f_X6_lowOf a2) = 0) ∧ (((((65536 : Int64) * ((a0.toInt64 * (f_X6_upOf a2)) / (f_X6_lowOf a2))) + ((((f_X6_upOf a2) * a1.toInt64) + ((65536 : Int64) * ((a0.toInt64 * (f_X6_upOf a2)) - (a0.toInt64 * (f_X6_upOf a2)) / (f_X6_lowOf a2) * (f_X6_lowOf a2)))) / (f_X6_lowOf a2))) ≤ (1073741823 : Int64) → (True)) ∧ (¬ (((65536 : Int64) * ((a0.toInt64 * (f_X6_upOf a2)) / (f_X6_lowOf a2))) + ((((f_X6_upOf a2) * a1.toInt64) + ((65536 : Int64) * ((a0.toInt64 * (f_X6_upOf a2)) - (a0.toInt64 * (f_X6_upOf a2)) / (f_X6_lowOf a2) * (f_X6_lowOf a2)))) / (f_X6_lowOf a2))) ≤ (1073741823 : Int64) → (True)))))))))))))
set_option maxHeartbeats 4000000 in
set_option maxRecDepth 100000 in
theorem c_X6_scaled (l : Launch) (dC : Nat → ClassId) (dI : Nat → Nat → Nat) (cI cJ : ClassId) (ad : Nat → Nat) (hi : fI 17 ad) (sz : Nat) (Th : Int32) (Ce : Nat → Int64) (Le : Nat → Int32) (De : Int32) (Ke : Int32) (Kc : Nat → Int64) (Ko : Nat → Int32) (Kl : Nat → Int32) (Kd : Nat → Int32) (Ug : Nat → Int64) (Ur : Nat → Int64) (Va : Nat → Int64) (To : Int32) (Tt : Nat → Int32) (Td : Nat → Int32) (Go : Int32) (Gg : Nat → Int32) (Ga : Nat → Int32) (Be : Int32) (Bt : Nat → Int32) (Si : Int32) (Te : Nat → Int32) (Bz : Int32) (Bk : Nat → Int32) (a0 : Int32) (a1 : Int32) (a2 : Int32) (hs : S_X6_scaled a0 a1 a2 Th) : Met l yX6_scaled (mW yX6_scaled cX6_scaled 10 (some .long)) { frames := 1, cells := 0, slots := 0, locals := 25 } (va_Pc [.ref (ad 0), .int a0, .int a1, .int a2] (fun U => U.heap.size = sz ∧ va_P (dC, dI) vwCl (wM ad cI cJ Th Ce Le De Ke Kc Ko Kl Kd Ug Ur Va To Tt Td Go Gg Ga Be Bt Si Te Bz Bk) U.heap ∧ va_K (dC, dI) vwCl [(cI, .int), (cJ, .long)] U)) (va_Ql (fun (r : Int64) (_ : Unit) => r = (f_X6_scaled a0 a1 a2 Th).1) (fun _ t => va_P (dC, dI) vwCl (wM ad cI cJ ((f_X6_scaled a0 a1 a2 Th).2) Ce Le De Ke Kc Ko Kl Kd Ug Ur Va To Tt Td Go Gg Ga Be Bt Si Te Bz Bk) t.heap) (fA 17 ad sz)) 0 0 (fA 17 ad sz) := by
  refine Met.ofW (cc := cX6_scaled) (maxL := 10) (ret := (some .long)) (by decide) rfl ?_
  intro p e s m args below meth c s₁ B hml hv
  obtain ⟨rfl, hsz, hP, hK⟩ := hv
  have hx := B.exec
  have hb := B.bytes
  have hr := B.returns
  have hts := mW_hts (atoms_spec (ws := (mW yX6_scaled cX6_scaled 10 (some .long))) B.pre)
  have hown : s.vm.findClass RX6 = some m.cls := findClass_of_methodNamed B.named
  have hlocks := B.notSynchronized
  subst hsz
  have hA : ∀ (n : Nat) (q : Nat), s.heap.size ≤ n → n ≤ q → fA 17 ad s.heap.size q := fun n q h1 h2 => Or.inr (Nat.le_trans h1 h2)
  have hS : va_S (fA 17 ad s.heap.size) s.heap s.heap [] := va_S.rf
  have hA : ∀ q, s.heap.size ≤ q → (fA 17 ad s.heap.size) q := fun q h => Or.inr h
  unfold S_X6_scaled at hs
  have hl := lv_entry ([.ref (ad 0), .int a0, .int a1, .int a2]) (n := 10) (Nat.le_of_ble_eq_true rfl)
  rw [lg_entry_eq]
  generalize (lg_sl ([.ref (ad 0), .int a0, .int a1, .int a2]) ++ List.replicate (10 - (lg_sl ([.ref (ad 0), .int a0, .int a1, .int a2])).length) Slot.unset).toArray = ls at hl ⊢
  have hl : lv_has ls 10 [(0, .ref (ad 0)), (1, .int a0), (2, .int a1), (3, .int a2)] := hl
  refine W_gen (fun Q9 hQ9 => ?_)
  refine lv_aload_n hx hb dX6_scaled_0 rfl (lv_at hl 0 rfl) ?_
  refine lv_iload_n hx hb dX6_scaled_1 rfl (lv_at hl 1 rfl) ?_
  refine lv_i2l hx hb dX6_scaled_2 rfl ?_
  refine lv_lconst (v := 0) hx hb dX6_scaled_3 (by decide) ?_
  refine lv_ldc2 hx hb hown (hts _ mK_RX6_75) dX6_scaled_4 ?_
  refine q_X6_in hx hb hml hown hts mM_RX6_67 ⟨Nat.le_of_ble_eq_true rfl, Nat.le_of_ble_eq_true rfl⟩ ⟨Nat.le_of_ble_eq_true rfl, Nat.le_of_ble_eq_true rfl⟩ hl.1 (Nat.le_of_ble_eq_true rfl) hS dX6_scaled_7 hA a0.toInt64 (0 : Int64) (1073741823 : Int64) (fun locs hS => ?_)
  refine lv_if_eq (tgt := 41) hx hb dX6_scaled_10 (by decide) (fun c1 => ?_) (fun c1 => ?_)
  · have hs := hs.1 c1
    refine lv_iconst (v := 1) hx hb dX6_scaled_41 (by decide) ?_
    refine va_put (D := (dC, dI)) (ci := 8) (v := .int (1 : Int32)) (ty := .int) (C := RX6) (T := TX6) (N := 24) hx hb hts iW_X6 tyX6 tyX6_ok nmX6 hown hK hP (fA_D hi rfl) hS 0 rfl rfl 0 (by decide) (hts _ mF_RX6_61) (fun _ h9 => h9) rfl (by decide +kernel) rfl rfl (Nat.le_of_ble_eq_true rfl) dX6_scaled_42 (fun H locs hP _ hS => ?_)
    have hP : va_P (dC, dI) vwCl (wM ad cI cJ (1 : Int32) Ce Le De Ke Kc Ko Kl Kd Ug Ur Va To Tt Td Go Gg Ga Be Bt Si Te Bz Bk) H := hP
    refine lv_aload_n hx hb dX6_scaled_45 rfl (lv_at hl 0 rfl) ?_
    refine va_get (D := (dC, dI)) (ci := 8) (v := .int (1 : Int32)) (C := RX6) (T := TX6) (N := 24) hx hb hts iW_X6 hown hK hP 0 rfl rfl 0 (by decide) (hts _ mF_RX6_61) (fun _ h9 => h9) rfl dX6_scaled_46 ?_
    refine lv_if_le (tgt := 54) hx hb dX6_scaled_49 (by decide) (fun c2 => ?_) (fun c2 => ?_)
    · exact absurd c2 (by decide)
    · refine lv_lconst (v := 0) hx hb dX6_scaled_52 (by decide) ?_
      rw [hQ9]
      have hf : f_X6_scaled a0 a1 a2 Th = ((0 : Int64), (1 : Int32)) := by simp only [f_X6_scaled, if_pos c1]
      exact W.lret (v := (0 : Int64)) hx hb hr (fun t ht hW => ⟨⟨(0 : Int64), (), rfl, by rw [hf], by rw [hf]; show va_P (dC, dI) vwCl _ t.heap; rw [ht]; exact hP⟩, hS.F ht⟩) hS.2.2 dX6_scaled_53
  · have hs := hs.2 c1
    refine lv_iload_n hx hb dX6_scaled_13 rfl (lv_at hl 2 rfl) ?_
    refine lv_i2l hx hb dX6_scaled_14 rfl ?_
    refine lv_lconst (v := 0) hx hb dX6_scaled_15 (by decide) ?_
    refine lv_ldc2 hx hb hown (hts _ mK_RX6_169) dX6_scaled_16 ?_
    refine q_X6_in hx hb hml hown hts mM_RX6_67 ⟨Nat.le_of_ble_eq_true rfl, Nat.le_of_ble_eq_true rfl⟩ ⟨Nat.le_of_ble_eq_true rfl, Nat.le_of_ble_eq_true rfl⟩ hl.1 (Nat.le_of_ble_eq_true rfl) hS dX6_scaled_19 hA a1.toInt64 (0 : Int64) (65535 : Int64) (fun locs hS => ?_)
    refine lv_if_eq (tgt := 41) hx hb dX6_scaled_22 (by decide) (fun c3 => ?_) (fun c3 => ?_)
    · have hs := hs.1 c3
      refine lv_iconst (v := 1) hx hb dX6_scaled_41 (by decide) ?_
      refine va_put (D := (dC, dI)) (ci := 8) (v := .int (1 : Int32)) (ty := .int) (C := RX6) (T := TX6) (N := 24) hx hb hts iW_X6 tyX6 tyX6_ok nmX6 hown hK hP (fA_D hi rfl) hS 0 rfl rfl 0 (by decide) (hts _ mF_RX6_61) (fun _ h9 => h9) rfl (by decide +kernel) rfl rfl (Nat.le_of_ble_eq_true rfl) dX6_scaled_42 (fun H locs hP _ hS => ?_)
      have hP : va_P (dC, dI) vwCl (wM ad cI cJ (1 : Int32) Ce Le De Ke Kc Ko Kl Kd Ug Ur Va To Tt Td Go Gg Ga Be Bt Si Te Bz Bk) H := hP
      refine lv_aload_n hx hb dX6_scaled_45 rfl (lv_at hl 0 rfl) ?_
      refine va_get (D := (dC, dI)) (ci := 8) (v := .int (1 : Int32)) (C := RX6) (T := TX6) (N := 24) hx hb hts iW_X6 hown hK hP 0 rfl rfl 0 (by decide) (hts _ mF_RX6_61) (fun _ h9 => h9) rfl dX6_scaled_46 ?_
      refine lv_if_le (tgt := 54) hx hb dX6_scaled_49 (by decide) (fun c4 => ?_) (fun c4 => ?_)
      · exact absurd c4 (by decide)
      · refine lv_lconst (v := 0) hx hb dX6_scaled_52 (by decide) ?_
        rw [hQ9]
        have hf : f_X6_scaled a0 a1 a2 Th = ((0 : Int64), (1 : Int32)) := by simp only [f_X6_scaled, if_neg c1, if_pos c3]
        exact W.lret (v := (0 : Int64)) hx hb hr (fun t ht hW => ⟨⟨(0 : Int64), (), rfl, by rw [hf], by rw [hf]; show va_P (dC, dI) vwCl _ t.heap; rw [ht]; exact hP⟩, hS.F ht⟩) hS.2.2 dX6_scaled_53
    · have hs := hs.2 c3
      refine lv_iload_n hx hb dX6_scaled_25 rfl (lv_at hl 3 rfl) ?_
      refine lv_i2l hx hb dX6_scaled_26 rfl ?_
      refine lv_lconst (v := 0) hx hb dX6_scaled_27 (by decide) ?_
      refine lv_ldc2 hx hb hown (hts _ mK_RX6_171) dX6_scaled_28 ?_
      refine q_X6_in hx hb hml hown hts mM_RX6_67 ⟨Nat.le_of_ble_eq_true rfl, Nat.le_of_ble_eq_true rfl⟩ ⟨Nat.le_of_ble_eq_true rfl, Nat.le_of_ble_eq_true rfl⟩ hl.1 (Nat.le_of_ble_eq_true rfl) hS dX6_scaled_31 hA a2.toInt64 (0 : Int64) (8 : Int64) (fun locs hS => ?_)
      refine lv_if_eq (tgt := 41) hx hb dX6_scaled_34 (by decide) (fun c5 => ?_) (fun c5 => ?_)
      · have hs := hs.1 c5
        refine lv_iconst (v := 1) hx hb dX6_scaled_41 (by decide) ?_
        refine va_put (D := (dC, dI)) (ci := 8) (v := .int (1 : Int32)) (ty := .int) (C := RX6) (T := TX6) (N := 24) hx hb hts iW_X6 tyX6 tyX6_ok nmX6 hown hK hP (fA_D hi rfl) hS 0 rfl rfl 0 (by decide) (hts _ mF_RX6_61) (fun _ h9 => h9) rfl (by decide +kernel) rfl rfl (Nat.le_of_ble_eq_true rfl) dX6_scaled_42 (fun H locs hP _ hS => ?_)
        have hP : va_P (dC, dI) vwCl (wM ad cI cJ (1 : Int32) Ce Le De Ke Kc Ko Kl Kd Ug Ur Va To Tt Td Go Gg Ga Be Bt Si Te Bz Bk) H := hP
        refine lv_aload_n hx hb dX6_scaled_45 rfl (lv_at hl 0 rfl) ?_
        refine va_get (D := (dC, dI)) (ci := 8) (v := .int (1 : Int32)) (C := RX6) (T := TX6) (N := 24) hx hb hts iW_X6 hown hK hP 0 rfl rfl 0 (by decide) (hts _ mF_RX6_61) (fun _ h9 => h9) rfl dX6_scaled_46 ?_
        refine lv_if_le (tgt := 54) hx hb dX6_scaled_49 (by decide) (fun c6 => ?_) (fun c6 => ?_)
        · exact absurd c6 (by decide)
        · refine lv_lconst (v := 0) hx hb dX6_scaled_52 (by decide) ?_
          rw [hQ9]
          have hf : f_X6_scaled a0 a1 a2 Th = ((0 : Int64), (1 : Int32)) := by simp only [f_X6_scaled, if_neg c1, if_neg c3, if_pos c5]
          exact W.lret (v := (0 : Int64)) hx hb hr (fun t ht hW => ⟨⟨(0 : Int64), (), rfl, by rw [hf], by rw [hf]; show va_P (dC, dI) vwCl _ t.heap; rw [ht]; exact hP⟩, hS.F ht⟩) hS.2.2 dX6_scaled_53
      · have hs := hs.2 c5
        refine lv_iconst (v := 0) hx hb dX6_scaled_37 (by decide) ?_
        refine lv_goto (tgt := 42) hx hb dX6_scaled_38 (by decide) ?_
        refine va_put (D := (dC, dI)) (ci := 8) (v := .int (0 : Int32)) (ty := .int) (C := RX6) (T := TX6) (N := 24) hx hb hts iW_X6 tyX6 tyX6_ok nmX6 hown hK hP (fA_D hi rfl) hS 0 rfl rfl 0 (by decide) (hts _ mF_RX6_61) (fun _ h9 => h9) rfl (by decide +kernel) rfl rfl (Nat.le_of_ble_eq_true rfl) dX6_scaled_42 (fun H locs hP _ hS => ?_)
        have hP : va_P (dC, dI) vwCl (wM ad cI cJ (0 : Int32) Ce Le De Ke Kc Ko Kl Kd Ug Ur Va To Tt Td Go Gg Ga Be Bt Si Te Bz Bk) H := hP
        refine lv_aload_n hx hb dX6_scaled_45 rfl (lv_at hl 0 rfl) ?_
        refine va_get (D := (dC, dI)) (ci := 8) (v := .int (0 : Int32)) (C := RX6) (T := TX6) (N := 24) hx hb hts iW_X6 hown hK hP 0 rfl rfl 0 (by decide) (hts _ mF_RX6_61) (fun _ h9 => h9) rfl dX6_scaled_46 ?_
        refine lv_if_le (tgt := 54) hx hb dX6_scaled_49 (by decide) (fun c7 => ?_) (fun c7 => ?_)
        · refine lv_iload_n hx hb dX6_scaled_54 rfl (lv_at hl 1 rfl) ?_
          refine lv_i2l hx hb dX6_scaled_55 rfl ?_
          refine lv_lstore (lv' := [(4, .long a0.toInt64), (0, .ref (ad 0)), (1, .int a0), (2, .int a1), (3, .int a2)]) hx hb dX6_scaled_56 hl (by decide) rfl (fun ls hl => ?_)
          refine lv_iload_n hx hb dX6_scaled_58 rfl (lv_at hl 4 rfl) ?_
          refine lv_bipush (v := 8) hx hb dX6_scaled_59 (by decide) ?_
          refine lv_icmp_ge (tgt := 115) hx hb dX6_scaled_61 (by decide) (fun c8 => ?_) (fun c8 => ?_)
          · have hs := hs.1 c8
            refine lv_lload hx hb dX6_scaled_115 (lv_at hl 0 rfl) ?_
            refine lv_ldc2 hx hb hown (hts _ mK_RX6_75) dX6_scaled_117 ?_
            refine W.lcmp hx hb dX6_scaled_120 ?_
            refine lv_if_le (tgt := 130) hx hb dX6_scaled_121 (by decide) (fun c9 => ?_) (fun c9 => ?_)
            · have c9 : a0.toInt64 ≤ (1073741823 : Int64) := lc_le.mp c9
              have hs := hs.1 c9
              refine lv_lload hx hb dX6_scaled_130 (lv_at hl 0 rfl) ?_
              rw [hQ9]
              have hf : f_X6_scaled a0 a1 a2 Th = (a0.toInt64, (0 : Int32)) := by simp only [f_X6_scaled, if_neg c1, if_neg c3, if_neg c5, if_pos c8, if_pos c9]
              exact W.lret (v := a0.toInt64) hx hb hr (fun t ht hW => ⟨⟨a0.toInt64, (), rfl, by rw [hf], by rw [hf]; show va_P (dC, dI) vwCl _ t.heap; rw [ht]; exact hP⟩, hS.F ht⟩) hS.2.2 dX6_scaled_132
            · have c9 : ¬ a0.toInt64 ≤ (1073741823 : Int64) := fun z => c9 (lc_le.mpr z)
              have hs := hs.2 c9
              refine lv_ldc2 hx hb hown (hts _ mK_RX6_59) dX6_scaled_124 ?_
              refine lv_goto (tgt := 132) hx hb dX6_scaled_127 (by decide) ?_
              rw [hQ9]
              have hf : f_X6_scaled a0 a1 a2 Th = ((-1 : Int64), (0 : Int32)) := by simp only [f_X6_scaled, if_neg c1, if_neg c3, if_neg c5, if_pos c8, if_neg c9]
              exact W.lret (v := (-1 : Int64)) hx hb hr (fun t ht hW => ⟨⟨(-1 : Int64), (), rfl, by rw [hf], by rw [hf]; show va_P (dC, dI) vwCl _ t.heap; rw [ht]; exact hP⟩, hS.F ht⟩) hS.2.2 dX6_scaled_132
          · have hs := hs.2 c8
            refine lv_iload_n hx hb dX6_scaled_64 rfl (lv_at hl 2 rfl) ?_
            refine lv_i2l hx hb dX6_scaled_65 rfl ?_
            refine lv_iload_n hx hb dX6_scaled_66 rfl (lv_at hl 4 rfl) ?_
            refine q_X6_upOf hx hb hml hown hts mM_RX6_173 ⟨Nat.le_of_ble_eq_true rfl, Nat.le_of_ble_eq_true rfl⟩ ⟨Nat.le_of_ble_eq_true rfl, Nat.le_of_ble_eq_true rfl⟩ hl.1 (Nat.le_of_ble_eq_true rfl) hS dX6_scaled_67 hA a2 (fun locs hS => ?_)
            refine lv_lmul hx hb dX6_scaled_70 ?_
            refine lv_lstore (lv' := [(6, .long (a0.toInt64 * (f_X6_upOf a2))), (4, .long a0.toInt64), (0, .ref (ad 0)), (1, .int a0), (2, .int a1), (3, .int a2)]) hx hb dX6_scaled_71 hl (by decide) rfl (fun ls hl => ?_)
            refine lv_iload_n hx hb dX6_scaled_73 rfl (lv_at hl 5 rfl) ?_
            refine q_X6_upOf hx hb hml hown hts mM_RX6_173 ⟨Nat.le_of_ble_eq_true rfl, Nat.le_of_ble_eq_true rfl⟩ ⟨Nat.le_of_ble_eq_true rfl, Nat.le_of_ble_eq_true rfl⟩ hl.1 (Nat.le_of_ble_eq_true rfl) hS dX6_scaled_74 hA a2 (fun locs hS => ?_)
            refine lv_iload_n hx hb dX6_scaled_77 rfl (lv_at hl 4 rfl) ?_
            refine lv_i2l hx hb dX6_scaled_78 rfl ?_
            refine lv_lmul hx hb dX6_scaled_79 ?_
            refine lv_ldc2 hx hb hown (hts _ mK_RX6_177) dX6_scaled_80 ?_
            refine lv_lload hx hb dX6_scaled_83 (lv_at hl 0 rfl) ?_
            refine lv_iload_n hx hb dX6_scaled_85 rfl (lv_at hl 5 rfl) ?_
            refine q_X6_lowOf hx hb hml hown hts mM_RX6_179 ⟨Nat.le_of_ble_eq_true rfl, Nat.le_of_ble_eq_true rfl⟩ ⟨Nat.le_of_ble_eq_true rfl, Nat.le_of_ble_eq_true rfl⟩ hl.1 (Nat.le_of_ble_eq_true rfl) hS dX6_scaled_86 hA a2 (fun locs hS => ?_)
            obtain ⟨h10, hs⟩ := hs
            refine lv_lrem hx hb dX6_scaled_89 h10 ?_
            refine lv_lmul hx hb dX6_scaled_90 ?_
            refine lv_ladd hx hb dX6_scaled_91 ?_
            refine lv_iload_n hx hb dX6_scaled_92 rfl (lv_at hl 5 rfl) ?_
            refine q_X6_lowOf hx hb hml hown hts mM_RX6_179 ⟨Nat.le_of_ble_eq_true rfl, Nat.le_of_ble_eq_true rfl⟩ ⟨Nat.le_of_ble_eq_true rfl, Nat.le_of_ble_eq_true rfl⟩ hl.1 (Nat.le_of_ble_eq_true rfl) hS dX6_scaled_93 hA a2 (fun locs hS => ?_)
            obtain ⟨h11, hs⟩ := hs
            refine lv_ldiv hx hb dX6_scaled_96 h11 ?_
            refine lv_lstore (lv' := [(8, .long ((((f_X6_upOf a2) * a1.toInt64) + ((65536 : Int64) * ((a0.toInt64 * (f_X6_upOf a2)) - (a0.toInt64 * (f_X6_upOf a2)) / (f_X6_lowOf a2) * (f_X6_lowOf a2)))) / (f_X6_lowOf a2))), (6, .long (a0.toInt64 * (f_X6_upOf a2))), (4, .long a0.toInt64), (0, .ref (ad 0)), (1, .int a0), (2, .int a1), (3, .int a2)]) hx hb dX6_scaled_97 hl (by decide) rfl (fun ls hl => ?_)
            refine lv_ldc2 hx hb hown (hts _ mK_RX6_177) dX6_scaled_99 ?_
            refine lv_lload hx hb dX6_scaled_102 (lv_at hl 1 rfl) ?_
            refine lv_iload_n hx hb dX6_scaled_104 rfl (lv_at hl 6 rfl) ?_
            refine q_X6_lowOf hx hb hml hown hts mM_RX6_179 ⟨Nat.le_of_ble_eq_true rfl, Nat.le_of_ble_eq_true rfl⟩ ⟨Nat.le_of_ble_eq_true rfl, Nat.le_of_ble_eq_true rfl⟩ hl.1 (Nat.le_of_ble_eq_true rfl) hS dX6_scaled_105 hA a2 (fun locs hS => ?_)
            obtain ⟨h12, hs⟩ := hs
            refine lv_ldiv hx hb dX6_scaled_108 h12 ?_
            refine lv_lmul hx hb dX6_scaled_109 ?_
            refine lv_lload hx hb dX6_scaled_110 (lv_at hl 0 rfl) ?_
            refine lv_ladd hx hb dX6_scaled_112 ?_
            refine lv_lstore (lv' := [(4, .long (((65536 : Int64) * ((a0.toInt64 * (f_X6_upOf a2)) / (f_X6_lowOf a2))) + ((((f_X6_upOf a2) * a1.toInt64) + ((65536 : Int64) * ((a0.toInt64 * (f_X6_upOf a2)) - (a0.toInt64 * (f_X6_upOf a2)) / (f_X6_lowOf a2) * (f_X6_lowOf a2)))) / (f_X6_lowOf a2)))), (8, .long ((((f_X6_upOf a2) * a1.toInt64) + ((65536 : Int64) * ((a0.toInt64 * (f_X6_upOf a2)) - (a0.toInt64 * (f_X6_upOf a2)) / (f_X6_lowOf a2) * (f_X6_lowOf a2)))) / (f_X6_lowOf a2))), (6, .long (a0.toInt64 * (f_X6_upOf a2))), (0, .ref (ad 0)), (1, .int a0), (2, .int a1), (3, .int a2)]) hx hb dX6_scaled_113 hl (by decide) rfl (fun ls hl => ?_)
            refine lv_lload hx hb dX6_scaled_115 (lv_at hl 0 rfl) ?_
            refine lv_ldc2 hx hb hown (hts _ mK_RX6_75) dX6_scaled_117 ?_
            refine W.lcmp hx hb dX6_scaled_120 ?_
            refine lv_if_le (tgt := 130) hx hb dX6_scaled_121 (by decide) (fun c13 => ?_) (fun c13 => ?_)
            · have c13 : (((65536 : Int64) * ((a0.toInt64 * (f_X6_upOf a2)) / (f_X6_lowOf a2))) + ((((f_X6_upOf a2) * a1.toInt64) + ((65536 : Int64) * ((a0.toInt64 * (f_X6_upOf a2)) - (a0.toInt64 * (f_X6_upOf a2)) / (f_X6_lowOf a2) * (f_X6_lowOf a2)))) / (f_X6_lowOf a2))) ≤ (1073741823 : Int64) := lc_le.mp c13
              have hs := hs.1 c13
              refine lv_lload hx hb dX6_scaled_130 (lv_at hl 0 rfl) ?_
              rw [hQ9]
              have hf : f_X6_scaled a0 a1 a2 Th = ((((65536 : Int64) * ((a0.toInt64 * (f_X6_upOf a2)) / (f_X6_lowOf a2))) + ((((f_X6_upOf a2) * a1.toInt64) + ((65536 : Int64) * ((a0.toInt64 * (f_X6_upOf a2)) - (a0.toInt64 * (f_X6_upOf a2)) / (f_X6_lowOf a2) * (f_X6_lowOf a2)))) / (f_X6_lowOf a2))), (0 : Int32)) := by simp only [f_X6_scaled, if_neg c1, if_neg c3, if_neg c5, if_neg c8, if_pos c13]
              exact W.lret (v := (((65536 : Int64) * ((a0.toInt64 * (f_X6_upOf a2)) / (f_X6_lowOf a2))) + ((((f_X6_upOf a2) * a1.toInt64) + ((65536 : Int64) * ((a0.toInt64 * (f_X6_upOf a2)) - (a0.toInt64 * (f_X6_upOf a2)) / (f_X6_lowOf a2) * (f_X6_lowOf a2)))) / (f_X6_lowOf a2)))) hx hb hr (fun t ht hW => ⟨⟨(((65536 : Int64) * ((a0.toInt64 * (f_X6_upOf a2)) / (f_X6_lowOf a2))) + ((((f_X6_upOf a2) * a1.toInt64) + ((65536 : Int64) * ((a0.toInt64 * (f_X6_upOf a2)) - (a0.toInt64 * (f_X6_upOf a2)) / (f_X6_lowOf a2) * (f_X6_lowOf a2)))) / (f_X6_lowOf a2))), (), rfl, by rw [hf], by rw [hf]; show va_P (dC, dI) vwCl _ t.heap; rw [ht]; exact hP⟩, hS.F ht⟩) hS.2.2 dX6_scaled_132
            · have c13 : ¬ (((65536 : Int64) * ((a0.toInt64 * (f_X6_upOf a2)) / (f_X6_lowOf a2))) + ((((f_X6_upOf a2) * a1.toInt64) + ((65536 : Int64) * ((a0.toInt64 * (f_X6_upOf a2)) - (a0.toInt64 * (f_X6_upOf a2)) / (f_X6_lowOf a2) * (f_X6_lowOf a2)))) / (f_X6_lowOf a2))) ≤ (1073741823 : Int64) := fun z => c13 (lc_le.mpr z)
              have hs := hs.2 c13
              refine lv_ldc2 hx hb hown (hts _ mK_RX6_59) dX6_scaled_124 ?_
              refine lv_goto (tgt := 132) hx hb dX6_scaled_127 (by decide) ?_
              rw [hQ9]
              have hf : f_X6_scaled a0 a1 a2 Th = ((-1 : Int64), (0 : Int32)) := by simp only [f_X6_scaled, if_neg c1, if_neg c3, if_neg c5, if_neg c8, if_neg c13]
              exact W.lret (v := (-1 : Int64)) hx hb hr (fun t ht hW => ⟨⟨(-1 : Int64), (), rfl, by rw [hf], by rw [hf]; show va_P (dC, dI) vwCl _ t.heap; rw [ht]; exact hP⟩, hS.F ht⟩) hS.2.2 dX6_scaled_132
        · exact absurd (by decide) c7
theorem q_X6_scaled {p : Program} {l : Launch} {e : Env} {R : Room} {s : State} {m : MethodId} {args : Array Value} {below : List Frame} {meth : Method} {c : Code} {H : Heap} {locs : List Loc} {cells slots : Nat} {Q : State → Prop} {pc : Nat} {ls : Array Slot} {rest : List Value} {cc : ByteArray} {nL idx : Nat} {own : String} {A0 : Nat → Prop} {dC : Nat → ClassId} {dI : Nat → Nat → Nat} {cI cJ : ClassId} {ad : Nat → Nat} {Th : Int32} {Ce : Nat → Int64} {Le : Nat → Int32} {De : Int32} {Ke : Int32} {Kc : Nat → Int64} {Ko : Nat → Int32} {Kl : Nat → Int32} {Kd : Nat → Int32} {Ug : Nat → Int64} {Ur : Nat → Int64} {Va : Nat → Int64} {To : Int32} {Tt : Nat → Int32} {Td : Nat → Int32} {Go : Int32} {Gg : Nat → Int32} {Ga : Nat → Int32} {Be : Int32} {Bt : Nat → Int32} {Si : Int32} {Te : Nat → Int32} {Bz : Int32} {Bk : Nat → Int32} (hx : p.tables.exec = Jvm.exec) (hb : c.code = cc) (hml : c.maxLocals = nL) (hown : s.vm.findClass own = some m.cls) (hts : ∀ w ∈ bigW, w.before args s = true) (hlk : Cond.methodLink own idx yX6_scaled ∈ bigW) (hR : 2 ≤ R.frames ∧ 54 ≤ R.locals) (hf : cells + 0 ≤ R.cells ∧ slots + 0 ≤ R.slots) (hz : ls.size = nL) (hw : (rest.map fun v => v.category).sum ≤ 8) (hS : va_S A0 s.heap H locs) (hd : decode cc pc = .ok (.invokevirtual idx, 3)) (hA : ∀ q, fA 17 ad H.size q → A0 q) (hi : fI 17 ad) (hK : va_K (dC, dI) vwCl [(cI, .int), (cJ, .long)] s) (hP : va_P (dC, dI) vwCl (wM ad cI cJ Th Ce Le De Ke Kc Ko Kl Kd Ug Ur Va To Tt Td Go Gg Ga Be Bt Si Te Bz Bk) H) (a0 : Int32) (a1 : Int32) (a2 : Int32) (hs : S_X6_scaled a0 a1 a2 Th)  (u : Int64 × Int32) (hu : u = f_X6_scaled a0 a1 a2 Th) (k : ∀ (H1 : Heap) (locs1 : List Loc), va_P (dC, dI) vwCl (wM ad cI cJ u.2 Ce Le De Ke Kc Ko Kl Kd Ug Ur Va To Tt Td Go Gg Ga Be Bt Si Te Bz Bk) H1 → va_S A0 s.heap H1 locs1 → W p l e R s m args below meth c H1 locs1 (cells + 0) (slots + 0) Q (F0 m (pc + 3) ls (.long u.1 :: rest))) : W p l e R s m args below meth c H locs cells slots Q (F0 m pc ls (.int a2 :: .int a1 :: .int a0 :: .ref (ad 0) :: rest)) := by
  subst hu
  exact va_calll (va_runV (As := [.int a0, .int a1, .int a2]) (rest := rest) ⟨hx, hb, hml, hown, hts⟩ (c_X6_scaled l dC dI cI cJ ad hi H.size Th Ce Le De Ke Kc Ko Kl Kd Ug Ur Va To Tt Td Go Gg Ga Be Bt Si Te Bz Bk a0 a1 a2 hs) (kV 3 hts hlk mI_X6_scaled mN_RX6 mY_X6_scaled mV_X6_scaled rfl rfl (by decide +kernel) hR) ⟨fun a U g mk q => ⟨q.1, q.2.1, q.2.2.1, va_K.moved (u := U) (U := U.calling g mk a) (Vm.Alike.refl U.vm) q.2.2.2⟩, va_recv hK hP (ci := 8) (q0 := 0) rfl rfl, fun U hU hW => ⟨rfl, by rw [hU], by rw [hU]; exact hP, va_K.moved hW.alike hK⟩⟩ rfl rfl hz rfl (lv_room hw) hd hf) hS (fun q _ h => hA q h) (fun q h => hA q h) (fun r u t H1 locs1 ht hvm hw9 hB hz1 hk1 hS1 => by
    subst hw9
    exact k H1 locs1 (by rw [← ht]; exact hB) hS1)
theorem qf_X6_scaled {p : Program} {l : Launch} {e : Env} {R : Room} {s : State} {m : MethodId} {args : Array Value} {below : List Frame} {meth : Method} {c : Code} {H : Heap} {locs : List Loc} {cells slots : Nat} {Q : State → Prop} {pc : Nat} {ls : Array Slot} {rest : List Value} {cc : ByteArray} {nL idx : Nat} {own : String} {A0 : Nat → Prop} {dC : Nat → ClassId} {dI : Nat → Nat → Nat} {cI cJ : ClassId} {ad : Nat → Nat} {Th : Int32} {Ce : Nat → Int64} {Le : Nat → Int32} {De : Int32} {Ke : Int32} {Kc : Nat → Int64} {Ko : Nat → Int32} {Kl : Nat → Int32} {Kd : Nat → Int32} {Ug : Nat → Int64} {Ur : Nat → Int64} {Va : Nat → Int64} {To : Int32} {Tt : Nat → Int32} {Td : Nat → Int32} {Go : Int32} {Gg : Nat → Int32} {Ga : Nat → Int32} {Be : Int32} {Bt : Nat → Int32} {Si : Int32} {Te : Nat → Int32} {Bz : Int32} {Bk : Nat → Int32} (hx : p.tables.exec = Jvm.exec) (hb : c.code = cc) (hml : c.maxLocals = nL) (hown : s.vm.findClass own = some m.cls) (hts : ∀ w ∈ bigW, w.before args s = true) (hlk : Cond.methodLink own idx yX6_scaled ∈ bigW) (hR : 2 ≤ R.frames ∧ 54 ≤ R.locals) (hf : cells + 0 ≤ R.cells ∧ slots + 0 ≤ R.slots) (hz : ls.size = nL) (hw : (rest.map fun v => v.category).sum ≤ 8) (hS : va_S A0 s.heap H locs) (hd : decode cc pc = .ok (.invokevirtual idx, 3)) (hA : ∀ q, fA 17 ad H.size q → A0 q) (hi : fI 17 ad) (hK : va_K (dC, dI) vwCl [(cI, .int), (cJ, .long)] s) (hP : va_P (dC, dI) vwCl (wM ad cI cJ Th Ce Le De Ke Kc Ko Kl Kd Ug Ur Va To Tt Td Go Gg Ga Be Bt Si Te Bz Bk) H) (a0 : Int32) (a1 : Int32) (a2 : Int32) (hs : S_X6_scaled a0 a1 a2 Th)  (u : Int64 × Int32) (hu : u = f_X6_scaled a0 a1 a2 Th) (k : ∀ (H1 : Heap) (locs1 : List Loc), va_P (dC, dI) vwCl (wM ad cI cJ u.2 Ce Le De Ke Kc Ko Kl Kd Ug Ur Va To Tt Td Go Gg Ga Be Bt Si Te Bz Bk) H1 → va_S A0 s.heap H1 locs1 → (∀ q : Nat, q < H.size → ¬ fA 17 ad H.size q → H1[q]? = H[q]?) → H.size ≤ H1.size → W p l e R s m args below meth c H1 locs1 (cells + 0) (slots + 0) Q (F0 m (pc + 3) ls (.long u.1 :: rest))) : W p l e R s m args below meth c H locs cells slots Q (F0 m pc ls (.int a2 :: .int a1 :: .int a0 :: .ref (ad 0) :: rest)) := by
  subst hu
  exact va_calll (va_runV (As := [.int a0, .int a1, .int a2]) (rest := rest) ⟨hx, hb, hml, hown, hts⟩ (c_X6_scaled l dC dI cI cJ ad hi H.size Th Ce Le De Ke Kc Ko Kl Kd Ug Ur Va To Tt Td Go Gg Ga Be Bt Si Te Bz Bk a0 a1 a2 hs) (kV 3 hts hlk mI_X6_scaled mN_RX6 mY_X6_scaled mV_X6_scaled rfl rfl (by decide +kernel) hR) ⟨fun a U g mk q => ⟨q.1, q.2.1, q.2.2.1, va_K.moved (u := U) (U := U.calling g mk a) (Vm.Alike.refl U.vm) q.2.2.2⟩, va_recv hK hP (ci := 8) (q0 := 0) rfl rfl, fun U hU hW => ⟨rfl, by rw [hU], by rw [hU]; exact hP, va_K.moved hW.alike hK⟩⟩ rfl rfl hz rfl (lv_room hw) hd hf) hS (fun q _ h => hA q h) (fun q h => hA q h) (fun r u t H1 locs1 ht hvm hw9 hB hz1 hk1 hS1 => by
    subst hw9
    exact k H1 locs1 (by rw [← ht]; exact hB) hS1 hk1 hz1)

def L_X6_fraction_91 : Nat → Int32 → Int64 → Int32 → Int32 → Int32 × Int64 × Int32
  | 0, x6, x7, x9, x2 => (x6, x7, x9)
  | n + 1, x6, x7, x9, x2 => (if x2 ≤ x9 then (x6, x7, x9) else L_X6_fraction_91 n (x6 / (10 : Int32)) ((x7 + ((131072 : Int64) * (x6 - x6 / (10 : Int32) * (10 : Int32)).toInt64)) / (10 : Int64)) (x9 + 1) x2)
def SL_X6_fraction_91 : Nat → Int32 → Int64 → Int32 → Int32 → Prop
  | 0, _, _, _, _ => False
  | n + 1, x6, x7, x9, x2 => (x2 ≤ x9 → (True)) ∧ (¬ x2 ≤ x9 → (SL_X6_fraction_91 n (x6 / (10 : Int32)) ((x7 + ((131072 : Int64) * (x6 - x6 / (10 : Int32) * (10 : Int32)).toInt64)) / (10 : Int64)) (x9 + 1) x2))
def L_X6_fraction_28 : Nat → Int64 → Int32 → Int32 → Int32 → Int64 × Int32
  | 0, x4, x6, x2, x3 => (x4, x6)
  | n + 1, x4, x6, x2, x3 => (if x2 ≤ x6 then (x4, x6) else (if x3 = 0 then (x4, x6) else L_X6_fraction_28 n ((10 : Int64) * x4) (x6 + 1) x2 x3))
def SL_X6_fraction_28 : Nat → Int64 → Int32 → Int32 → Int32 → Prop
  | 0, _, _, _, _ => False
  | n + 1, x4, x6, x2, x3 => (x2 ≤ x6 → (True)) ∧ (¬ x2 ≤ x6 → ((x3 = 0 → (True)) ∧ (¬ x3 = 0 → (SL_X6_fraction_28 n ((10 : Int64) * x4) (x6 + 1) x2 x3))))
def f_X6_fraction (a0 : Int32) (a1 : Int32) (Th : Int32) : Int32 × Int32 := (if (f_X6_in a1.toInt64 (1 : Int64) (9 : Int64)) = 0 then (let u2 := L_X6_fraction_28 10 (1 : Int64) (0 : Int32) a1 (0 : Int32); ((0 : Int32), (1 : Int32))) else (if a0 < 0 then (let u14 := L_X6_fraction_28 10 (1 : Int64) (0 : Int32) a1 (0 : Int32); ((0 : Int32), (1 : Int32))) else (let u25 := L_X6_fraction_28 10 (1 : Int64) (0 : Int32) a1 (1 : Int32); (if u25.1 ≤ a0.toInt64 then ((0 : Int32), (1 : Int32)) else (let u32 := L_X6_fraction_91 10 a0 (0 : Int64) (0 : Int32) a1; (((u32.2.1 + (1 : Int64)) / (2 : Int64)).toInt32, (0 : Int32)))))))
def S_X6_fraction (a0 : Int32) (a1 : Int32) (Th : Int32) : Prop := ((f_X6_in a1.toInt64 (1 : Int64) (9 : Int64)) = 0 → ((SL_X6_fraction_28 10 (1 : Int64) (0 : Int32) a1 (0 : Int32)) ∧ (∀ u2, u2 = L_X6_fraction_28 10 (1 : Int64) (0 : Int32) a1 (0 : Int32) → (True)))) ∧ (¬ (f_X6_in a1.toInt64 (1 : Int64) (9 : Int64)) = 0 → ((a0 < 0 → ((SL_X6_fraction_28 10 (1 : Int64) (0 : Int32) a1 (0 : Int32)) ∧ (∀ u14, u14 = L_X6_fraction_28 10 (1 : Int64) (0 : Int32) a1 (0 : Int32) → (True)))) ∧ (¬ a0 < 0 → ((SL_X6_fraction_28 10 (1 : Int64) (0 : Int32) a1 (1 : Int32)) ∧ (∀ u25, u25 = L_X6_fraction_28 10 (1 : Int64) (0 : Int32) a1 (1 : Int32) → ((u25.1 ≤ a0.toInt64 → (True)) ∧ (¬ u25.1 ≤ a0.toInt64 → ((SL_X6_fraction_91 10 a0 (0 : Int64) (0 : Int32) a1) ∧ (∀ u32, u32 = L_X6_fraction_91 10 a0 (0 : Int64) (0 : Int32) a1 → (True))))))))))
set_option maxHeartbeats 4000000 in
set_option maxRecDepth 100000 in
theorem c_X6_fraction (l : Launch) (dC : Nat → ClassId) (dI : Nat → Nat → Nat) (cI cJ : ClassId) (ad : Nat → Nat) (hi : fI 17 ad) (sz : Nat) (Th : Int32) (Ce : Nat → Int64) (Le : Nat → Int32) (De : Int32) (Ke : Int32) (Kc : Nat → Int64) (Ko : Nat → Int32) (Kl : Nat → Int32) (Kd : Nat → Int32) (Ug : Nat → Int64) (Ur : Nat → Int64) (Va : Nat → Int64) (To : Int32) (Tt : Nat → Int32) (Td : Nat → Int32) (Go : Int32) (Gg : Nat → Int32) (Ga : Nat → Int32) (Be : Int32) (Bt : Nat → Int32) (Si : Int32) (Te : Nat → Int32) (Bz : Int32) (Bk : Nat → Int32) (a0 : Int32) (a1 : Int32) (hs : S_X6_fraction a0 a1 Th) : Met l yX6_fraction (mW yX6_fraction cX6_fraction 10 (some .int)) { frames := 1, cells := 0, slots := 0, locals := 25 } (va_Pc [.ref (ad 0), .int a0, .int a1] (fun U => U.heap.size = sz ∧ va_P (dC, dI) vwCl (wM ad cI cJ Th Ce Le De Ke Kc Ko Kl Kd Ug Ur Va To Tt Td Go Gg Ga Be Bt Si Te Bz Bk) U.heap ∧ va_K (dC, dI) vwCl [(cI, .int), (cJ, .long)] U)) (va_Qi (fun (r : Int32) (_ : Unit) => r = (f_X6_fraction a0 a1 Th).1) (fun _ t => va_P (dC, dI) vwCl (wM ad cI cJ ((f_X6_fraction a0 a1 Th).2) Ce Le De Ke Kc Ko Kl Kd Ug Ur Va To Tt Td Go Gg Ga Be Bt Si Te Bz Bk) t.heap) (fA 17 ad sz)) 0 0 (fA 17 ad sz) := by
  refine Met.ofW (cc := cX6_fraction) (maxL := 10) (ret := (some .int)) (by decide) rfl ?_
  intro p e s m args below meth c s₁ B hml hv
  obtain ⟨rfl, hsz, hP, hK⟩ := hv
  have hx := B.exec
  have hb := B.bytes
  have hr := B.returns
  have hts := mW_hts (atoms_spec (ws := (mW yX6_fraction cX6_fraction 10 (some .int))) B.pre)
  have hown : s.vm.findClass RX6 = some m.cls := findClass_of_methodNamed B.named
  have hlocks := B.notSynchronized
  subst hsz
  have hA : ∀ (n : Nat) (q : Nat), s.heap.size ≤ n → n ≤ q → fA 17 ad s.heap.size q := fun n q h1 h2 => Or.inr (Nat.le_trans h1 h2)
  have hS : va_S (fA 17 ad s.heap.size) s.heap s.heap [] := va_S.rf
  have hA : ∀ q, s.heap.size ≤ q → (fA 17 ad s.heap.size) q := fun q h => Or.inr h
  unfold S_X6_fraction at hs
  have hl := lv_entry ([.ref (ad 0), .int a0, .int a1]) (n := 10) (Nat.le_of_ble_eq_true rfl)
  rw [lg_entry_eq]
  generalize (lg_sl ([.ref (ad 0), .int a0, .int a1]) ++ List.replicate (10 - (lg_sl ([.ref (ad 0), .int a0, .int a1])).length) Slot.unset).toArray = ls at hl ⊢
  have hl : lv_has ls 10 [(0, .ref (ad 0)), (1, .int a0), (2, .int a1)] := hl
  refine W_gen (fun Q9 hQ9 => ?_)
  refine lv_iload_n hx hb dX6_fraction_0 rfl (lv_at hl 2 rfl) ?_
  refine lv_i2l hx hb dX6_fraction_1 rfl ?_
  refine lv_lconst (v := 1) hx hb dX6_fraction_2 (by decide) ?_
  refine lv_ldc2 hx hb hown (hts _ mK_RX6_182) dX6_fraction_3 ?_
  refine q_X6_in hx hb hml hown hts mM_RX6_67 ⟨Nat.le_of_ble_eq_true rfl, Nat.le_of_ble_eq_true rfl⟩ ⟨Nat.le_of_ble_eq_true rfl, Nat.le_of_ble_eq_true rfl⟩ hl.1 (Nat.le_of_ble_eq_true rfl) hS dX6_fraction_6 hA a1.toInt64 (1 : Int64) (9 : Int64) (fun locs hS => ?_)
  refine lv_if_eq (tgt := 20) hx hb dX6_fraction_9 (by decide) (fun c1 => ?_) (fun c1 => ?_)
  · have hs := hs.1 c1
    refine lv_iconst (v := 0) hx hb dX6_fraction_20 (by decide) ?_
    refine lv_istore_n (lv' := [(3, .int (0 : Int32)), (0, .ref (ad 0)), (1, .int a0), (2, .int a1)]) hx hb dX6_fraction_21 rfl hl (by decide) rfl (fun ls hl => ?_)
    refine lv_lconst (v := 1) hx hb dX6_fraction_22 (by decide) ?_
    refine lv_lstore (lv' := [(4, .long (1 : Int64)), (3, .int (0 : Int32)), (0, .ref (ad 0)), (1, .int a0), (2, .int a1)]) hx hb dX6_fraction_23 hl (by decide) rfl (fun ls hl => ?_)
    refine lv_iconst (v := 0) hx hb dX6_fraction_25 (by decide) ?_
    refine lv_istore (lv' := [(6, .int (0 : Int32)), (4, .long (1 : Int64)), (3, .int (0 : Int32)), (0, .ref (ad 0)), (1, .int a0), (2, .int a1)]) hx hb dX6_fraction_26 hl (by decide) rfl (fun ls hl => ?_)
    obtain ⟨h3, hs⟩ := hs
    obtain ⟨u2, hu2⟩ : ∃ z, z = L_X6_fraction_28 10 (1 : Int64) (0 : Int32) a1 (0 : Int32) := ⟨_, rfl⟩
    have hs := hs u2 hu2
    have hex4 : ∀ (H : Heap) (locs : List Loc) (ls : Array Slot), va_P (dC, dI) vwCl (wM ad cI cJ Th Ce Le De Ke Kc Ko Kl Kd Ug Ur Va To Tt Td Go Gg Ga Be Bt Si Te Bz Bk) H → va_S (fA 17 ad s.heap.size) s.heap H locs → lv_has ls 10 [(4, .long u2.1), (6, .int u2.2), (3, .int (0 : Int32)), (0, .ref (ad 0)), (1, .int a0), (2, .int a1)] → W p l e (headSpec (mW yX6_fraction cX6_fraction 10 (some .int)) { frames := 1, cells := 0, slots := 0, locals := 25 }).room s m ([.ref (ad 0), .int a0, .int a1] : List Value).toArray below meth c H locs 0 0 Q9 (F0 m 52 ls []) := by
      intro H locs ls hP hS hl
      refine lv_aload_n hx hb dX6_fraction_52 rfl (lv_at hl 3 rfl) ?_
      refine lv_iload_n hx hb dX6_fraction_53 rfl (lv_at hl 2 rfl) ?_
      refine lv_if_eq (tgt := 69) hx hb dX6_fraction_54 (by decide) (fun c5 => ?_) (fun c5 => ?_)
      · refine lv_iconst (v := 1) hx hb dX6_fraction_69 (by decide) ?_
        refine va_put (D := (dC, dI)) (ci := 8) (v := .int (1 : Int32)) (ty := .int) (C := RX6) (T := TX6) (N := 24) hx hb hts iW_X6 tyX6 tyX6_ok nmX6 hown hK hP (fA_D hi rfl) hS 0 rfl rfl 0 (by decide) (hts _ mF_RX6_61) (fun _ h9 => h9) rfl (by decide +kernel) rfl rfl (Nat.le_of_ble_eq_true rfl) dX6_fraction_70 (fun H locs hP _ hS => ?_)
        have hP : va_P (dC, dI) vwCl (wM ad cI cJ (1 : Int32) Ce Le De Ke Kc Ko Kl Kd Ug Ur Va To Tt Td Go Gg Ga Be Bt Si Te Bz Bk) H := hP
        refine lv_aload_n hx hb dX6_fraction_73 rfl (lv_at hl 3 rfl) ?_
        refine va_get (D := (dC, dI)) (ci := 8) (v := .int (1 : Int32)) (C := RX6) (T := TX6) (N := 24) hx hb hts iW_X6 hown hK hP 0 rfl rfl 0 (by decide) (hts _ mF_RX6_61) (fun _ h9 => h9) rfl dX6_fraction_74 ?_
        refine lv_if_le (tgt := 82) hx hb dX6_fraction_77 (by decide) (fun c6 => ?_) (fun c6 => ?_)
        · exact absurd c6 (by decide)
        · refine lv_iconst (v := 0) hx hb dX6_fraction_80 (by decide) ?_
          rw [hQ9]
          have hf : f_X6_fraction a0 a1 Th = ((0 : Int32), (1 : Int32)) := by simp only [f_X6_fraction, if_pos c1, ← hu2]
          exact W.iret (v := (0 : Int32)) hx hb hr (fun t ht hW => ⟨⟨(0 : Int32), (), rfl, by rw [hf], by rw [hf]; show va_P (dC, dI) vwCl _ t.heap; rw [ht]; exact hP⟩, hS.F ht⟩) hS.2.2 dX6_fraction_81
      · exact absurd (by decide) c5
    have hlp7 : ∀ (n : Nat) (x4v : Int64) (x6v : Int32) (H : Heap) (locs : List Loc) (ls : Array Slot), SL_X6_fraction_28 n x4v x6v a1 (0 : Int32) → u2 = L_X6_fraction_28 n x4v x6v a1 (0 : Int32) → va_P (dC, dI) vwCl (wM ad cI cJ Th Ce Le De Ke Kc Ko Kl Kd Ug Ur Va To Tt Td Go Gg Ga Be Bt Si Te Bz Bk) H → va_S (fA 17 ad s.heap.size) s.heap H locs → lv_has ls 10 [(4, .long x4v), (6, .int x6v), (3, .int (0 : Int32)), (0, .ref (ad 0)), (1, .int a0), (2, .int a1)] → W p l e (headSpec (mW yX6_fraction cX6_fraction 10 (some .int)) { frames := 1, cells := 0, slots := 0, locals := 25 }).room s m ([.ref (ad 0), .int a0, .int a1] : List Value).toArray below meth c H locs 0 0 Q9 (F0 m 28 ls []) := by
      intro n
      induction n with
      | zero => intro x4v x6v H locs ls hs; rw [SL_X6_fraction_28] at hs; exact hs.elim
      | succ n ih =>
        intro x4v x6v H locs ls hs hq8 hP hS hl
        rw [SL_X6_fraction_28] at hs
        refine lv_iload hx hb dX6_fraction_28 (lv_at hl 1 rfl) ?_
        refine lv_iload_n hx hb dX6_fraction_30 rfl (lv_at hl 5 rfl) ?_
        refine lv_icmp_ge (tgt := 52) hx hb dX6_fraction_31 (by decide) (fun c9 => ?_) (fun c9 => ?_)
        · have hs := hs.1 c9
          have he10 : u2 = (x4v, x6v) := by rw [hq8, L_X6_fraction_28]; simp only [if_pos c9, ↓reduceIte]
          exact hex4 _ _ _ (by first | exact hP | (rw [he10]; exact hP)) hS (by first | exact lv_sub hl [0, 1, 2, 3, 4, 5] rfl | (rw [he10]; exact lv_sub hl [0, 1, 2, 3, 4, 5] rfl))
        · have hs := hs.2 c9
          refine lv_iload_n hx hb dX6_fraction_34 rfl (lv_at hl 2 rfl) ?_
          refine lv_if_eq (tgt := 52) hx hb dX6_fraction_35 (by decide) (fun c11 => ?_) (fun c11 => ?_)
          · have hs := hs.1 c11
            have he12 : u2 = (x4v, x6v) := by rw [hq8, L_X6_fraction_28]; simp only [if_neg c9, if_pos c11, ↓reduceIte]
            exact hex4 _ _ _ (by first | exact hP | (rw [he12]; exact hP)) hS (by first | exact lv_sub hl [0, 1, 2, 3, 4, 5] rfl | (rw [he12]; exact lv_sub hl [0, 1, 2, 3, 4, 5] rfl))
          · exact absurd (by decide) c11
    exact hlp7 10 (1 : Int64) (0 : Int32) _ _ _ h3 hu2 hP hS (lv_sub hl [1, 0, 2, 3, 4, 5] rfl)
  · have hs := hs.2 c1
    refine lv_iload_n hx hb dX6_fraction_12 rfl (lv_at hl 1 rfl) ?_
    refine lv_if_lt (tgt := 20) hx hb dX6_fraction_13 (by decide) (fun c13 => ?_) (fun c13 => ?_)
    · have hs := hs.1 c13
      refine lv_iconst (v := 0) hx hb dX6_fraction_20 (by decide) ?_
      refine lv_istore_n (lv' := [(3, .int (0 : Int32)), (0, .ref (ad 0)), (1, .int a0), (2, .int a1)]) hx hb dX6_fraction_21 rfl hl (by decide) rfl (fun ls hl => ?_)
      refine lv_lconst (v := 1) hx hb dX6_fraction_22 (by decide) ?_
      refine lv_lstore (lv' := [(4, .long (1 : Int64)), (3, .int (0 : Int32)), (0, .ref (ad 0)), (1, .int a0), (2, .int a1)]) hx hb dX6_fraction_23 hl (by decide) rfl (fun ls hl => ?_)
      refine lv_iconst (v := 0) hx hb dX6_fraction_25 (by decide) ?_
      refine lv_istore (lv' := [(6, .int (0 : Int32)), (4, .long (1 : Int64)), (3, .int (0 : Int32)), (0, .ref (ad 0)), (1, .int a0), (2, .int a1)]) hx hb dX6_fraction_26 hl (by decide) rfl (fun ls hl => ?_)
      obtain ⟨h15, hs⟩ := hs
      obtain ⟨u14, hu14⟩ : ∃ z, z = L_X6_fraction_28 10 (1 : Int64) (0 : Int32) a1 (0 : Int32) := ⟨_, rfl⟩
      have hs := hs u14 hu14
      have hex16 : ∀ (H : Heap) (locs : List Loc) (ls : Array Slot), va_P (dC, dI) vwCl (wM ad cI cJ Th Ce Le De Ke Kc Ko Kl Kd Ug Ur Va To Tt Td Go Gg Ga Be Bt Si Te Bz Bk) H → va_S (fA 17 ad s.heap.size) s.heap H locs → lv_has ls 10 [(4, .long u14.1), (6, .int u14.2), (3, .int (0 : Int32)), (0, .ref (ad 0)), (1, .int a0), (2, .int a1)] → W p l e (headSpec (mW yX6_fraction cX6_fraction 10 (some .int)) { frames := 1, cells := 0, slots := 0, locals := 25 }).room s m ([.ref (ad 0), .int a0, .int a1] : List Value).toArray below meth c H locs 0 0 Q9 (F0 m 52 ls []) := by
        intro H locs ls hP hS hl
        refine lv_aload_n hx hb dX6_fraction_52 rfl (lv_at hl 3 rfl) ?_
        refine lv_iload_n hx hb dX6_fraction_53 rfl (lv_at hl 2 rfl) ?_
        refine lv_if_eq (tgt := 69) hx hb dX6_fraction_54 (by decide) (fun c17 => ?_) (fun c17 => ?_)
        · refine lv_iconst (v := 1) hx hb dX6_fraction_69 (by decide) ?_
          refine va_put (D := (dC, dI)) (ci := 8) (v := .int (1 : Int32)) (ty := .int) (C := RX6) (T := TX6) (N := 24) hx hb hts iW_X6 tyX6 tyX6_ok nmX6 hown hK hP (fA_D hi rfl) hS 0 rfl rfl 0 (by decide) (hts _ mF_RX6_61) (fun _ h9 => h9) rfl (by decide +kernel) rfl rfl (Nat.le_of_ble_eq_true rfl) dX6_fraction_70 (fun H locs hP _ hS => ?_)
          have hP : va_P (dC, dI) vwCl (wM ad cI cJ (1 : Int32) Ce Le De Ke Kc Ko Kl Kd Ug Ur Va To Tt Td Go Gg Ga Be Bt Si Te Bz Bk) H := hP
          refine lv_aload_n hx hb dX6_fraction_73 rfl (lv_at hl 3 rfl) ?_
          refine va_get (D := (dC, dI)) (ci := 8) (v := .int (1 : Int32)) (C := RX6) (T := TX6) (N := 24) hx hb hts iW_X6 hown hK hP 0 rfl rfl 0 (by decide) (hts _ mF_RX6_61) (fun _ h9 => h9) rfl dX6_fraction_74 ?_
          refine lv_if_le (tgt := 82) hx hb dX6_fraction_77 (by decide) (fun c18 => ?_) (fun c18 => ?_)
          · exact absurd c18 (by decide)
          · refine lv_iconst (v := 0) hx hb dX6_fraction_80 (by decide) ?_
            rw [hQ9]
            have hf : f_X6_fraction a0 a1 Th = ((0 : Int32), (1 : Int32)) := by simp only [f_X6_fraction, if_neg c1, if_pos c13, ← hu14]
            exact W.iret (v := (0 : Int32)) hx hb hr (fun t ht hW => ⟨⟨(0 : Int32), (), rfl, by rw [hf], by rw [hf]; show va_P (dC, dI) vwCl _ t.heap; rw [ht]; exact hP⟩, hS.F ht⟩) hS.2.2 dX6_fraction_81
        · exact absurd (by decide) c17
      have hlp19 : ∀ (n : Nat) (x4v : Int64) (x6v : Int32) (H : Heap) (locs : List Loc) (ls : Array Slot), SL_X6_fraction_28 n x4v x6v a1 (0 : Int32) → u14 = L_X6_fraction_28 n x4v x6v a1 (0 : Int32) → va_P (dC, dI) vwCl (wM ad cI cJ Th Ce Le De Ke Kc Ko Kl Kd Ug Ur Va To Tt Td Go Gg Ga Be Bt Si Te Bz Bk) H → va_S (fA 17 ad s.heap.size) s.heap H locs → lv_has ls 10 [(4, .long x4v), (6, .int x6v), (3, .int (0 : Int32)), (0, .ref (ad 0)), (1, .int a0), (2, .int a1)] → W p l e (headSpec (mW yX6_fraction cX6_fraction 10 (some .int)) { frames := 1, cells := 0, slots := 0, locals := 25 }).room s m ([.ref (ad 0), .int a0, .int a1] : List Value).toArray below meth c H locs 0 0 Q9 (F0 m 28 ls []) := by
        intro n
        induction n with
        | zero => intro x4v x6v H locs ls hs; rw [SL_X6_fraction_28] at hs; exact hs.elim
        | succ n ih =>
          intro x4v x6v H locs ls hs hq20 hP hS hl
          rw [SL_X6_fraction_28] at hs
          refine lv_iload hx hb dX6_fraction_28 (lv_at hl 1 rfl) ?_
          refine lv_iload_n hx hb dX6_fraction_30 rfl (lv_at hl 5 rfl) ?_
          refine lv_icmp_ge (tgt := 52) hx hb dX6_fraction_31 (by decide) (fun c21 => ?_) (fun c21 => ?_)
          · have hs := hs.1 c21
            have he22 : u14 = (x4v, x6v) := by rw [hq20, L_X6_fraction_28]; simp only [if_pos c21, ↓reduceIte]
            exact hex16 _ _ _ (by first | exact hP | (rw [he22]; exact hP)) hS (by first | exact lv_sub hl [0, 1, 2, 3, 4, 5] rfl | (rw [he22]; exact lv_sub hl [0, 1, 2, 3, 4, 5] rfl))
          · have hs := hs.2 c21
            refine lv_iload_n hx hb dX6_fraction_34 rfl (lv_at hl 2 rfl) ?_
            refine lv_if_eq (tgt := 52) hx hb dX6_fraction_35 (by decide) (fun c23 => ?_) (fun c23 => ?_)
            · have hs := hs.1 c23
              have he24 : u14 = (x4v, x6v) := by rw [hq20, L_X6_fraction_28]; simp only [if_neg c21, if_pos c23, ↓reduceIte]
              exact hex16 _ _ _ (by first | exact hP | (rw [he24]; exact hP)) hS (by first | exact lv_sub hl [0, 1, 2, 3, 4, 5] rfl | (rw [he24]; exact lv_sub hl [0, 1, 2, 3, 4, 5] rfl))
            · exact absurd (by decide) c23
      exact hlp19 10 (1 : Int64) (0 : Int32) _ _ _ h15 hu14 hP hS (lv_sub hl [1, 0, 2, 3, 4, 5] rfl)
    · have hs := hs.2 c13
      refine lv_iconst (v := 1) hx hb dX6_fraction_16 (by decide) ?_
      refine lv_goto (tgt := 21) hx hb dX6_fraction_17 (by decide) ?_
      refine lv_istore_n (lv' := [(3, .int (1 : Int32)), (0, .ref (ad 0)), (1, .int a0), (2, .int a1)]) hx hb dX6_fraction_21 rfl hl (by decide) rfl (fun ls hl => ?_)
      refine lv_lconst (v := 1) hx hb dX6_fraction_22 (by decide) ?_
      refine lv_lstore (lv' := [(4, .long (1 : Int64)), (3, .int (1 : Int32)), (0, .ref (ad 0)), (1, .int a0), (2, .int a1)]) hx hb dX6_fraction_23 hl (by decide) rfl (fun ls hl => ?_)
      refine lv_iconst (v := 0) hx hb dX6_fraction_25 (by decide) ?_
      refine lv_istore (lv' := [(6, .int (0 : Int32)), (4, .long (1 : Int64)), (3, .int (1 : Int32)), (0, .ref (ad 0)), (1, .int a0), (2, .int a1)]) hx hb dX6_fraction_26 hl (by decide) rfl (fun ls hl => ?_)
      obtain ⟨h26, hs⟩ := hs
      obtain ⟨u25, hu25⟩ : ∃ z, z = L_X6_fraction_28 10 (1 : Int64) (0 : Int32) a1 (1 : Int32) := ⟨_, rfl⟩
      have hs := hs u25 hu25
      have hex27 : ∀ (H : Heap) (locs : List Loc) (ls : Array Slot), va_P (dC, dI) vwCl (wM ad cI cJ Th Ce Le De Ke Kc Ko Kl Kd Ug Ur Va To Tt Td Go Gg Ga Be Bt Si Te Bz Bk) H → va_S (fA 17 ad s.heap.size) s.heap H locs → lv_has ls 10 [(4, .long u25.1), (6, .int u25.2), (3, .int (1 : Int32)), (0, .ref (ad 0)), (1, .int a0), (2, .int a1)] → W p l e (headSpec (mW yX6_fraction cX6_fraction 10 (some .int)) { frames := 1, cells := 0, slots := 0, locals := 25 }).room s m ([.ref (ad 0), .int a0, .int a1] : List Value).toArray below meth c H locs 0 0 Q9 (F0 m 52 ls []) := by
        intro H locs ls hP hS hl
        refine lv_aload_n hx hb dX6_fraction_52 rfl (lv_at hl 3 rfl) ?_
        refine lv_iload_n hx hb dX6_fraction_53 rfl (lv_at hl 2 rfl) ?_
        refine lv_if_eq (tgt := 69) hx hb dX6_fraction_54 (by decide) (fun c28 => ?_) (fun c28 => ?_)
        · exact absurd c28 (by decide)
        · refine lv_iload_n hx hb dX6_fraction_57 rfl (lv_at hl 4 rfl) ?_
          refine lv_i2l hx hb dX6_fraction_58 rfl ?_
          refine lv_lload hx hb dX6_fraction_59 (lv_at hl 0 rfl) ?_
          refine W.lcmp hx hb dX6_fraction_61 ?_
          refine lv_if_ge (tgt := 69) hx hb dX6_fraction_62 (by decide) (fun c29 => ?_) (fun c29 => ?_)
          · have c29 : u25.1 ≤ a0.toInt64 := lc_ge.mp c29
            have hs := hs.1 c29
            refine lv_iconst (v := 1) hx hb dX6_fraction_69 (by decide) ?_
            refine va_put (D := (dC, dI)) (ci := 8) (v := .int (1 : Int32)) (ty := .int) (C := RX6) (T := TX6) (N := 24) hx hb hts iW_X6 tyX6 tyX6_ok nmX6 hown hK hP (fA_D hi rfl) hS 0 rfl rfl 0 (by decide) (hts _ mF_RX6_61) (fun _ h9 => h9) rfl (by decide +kernel) rfl rfl (Nat.le_of_ble_eq_true rfl) dX6_fraction_70 (fun H locs hP _ hS => ?_)
            have hP : va_P (dC, dI) vwCl (wM ad cI cJ (1 : Int32) Ce Le De Ke Kc Ko Kl Kd Ug Ur Va To Tt Td Go Gg Ga Be Bt Si Te Bz Bk) H := hP
            refine lv_aload_n hx hb dX6_fraction_73 rfl (lv_at hl 3 rfl) ?_
            refine va_get (D := (dC, dI)) (ci := 8) (v := .int (1 : Int32)) (C := RX6) (T := TX6) (N := 24) hx hb hts iW_X6 hown hK hP 0 rfl rfl 0 (by decide) (hts _ mF_RX6_61) (fun _ h9 => h9) rfl dX6_fraction_74 ?_
            refine lv_if_le (tgt := 82) hx hb dX6_fraction_77 (by decide) (fun c30 => ?_) (fun c30 => ?_)
            · exact absurd c30 (by decide)
            · refine lv_iconst (v := 0) hx hb dX6_fraction_80 (by decide) ?_
              rw [hQ9]
              have hf : f_X6_fraction a0 a1 Th = ((0 : Int32), (1 : Int32)) := by simp only [f_X6_fraction, if_neg c1, if_neg c13, ← hu25, if_pos c29]
              exact W.iret (v := (0 : Int32)) hx hb hr (fun t ht hW => ⟨⟨(0 : Int32), (), rfl, by rw [hf], by rw [hf]; show va_P (dC, dI) vwCl _ t.heap; rw [ht]; exact hP⟩, hS.F ht⟩) hS.2.2 dX6_fraction_81
          · have c29 : ¬ u25.1 ≤ a0.toInt64 := fun z => c29 (lc_ge.mpr z)
            have hs := hs.2 c29
            refine lv_iconst (v := 0) hx hb dX6_fraction_65 (by decide) ?_
            refine lv_goto (tgt := 70) hx hb dX6_fraction_66 (by decide) ?_
            refine va_put (D := (dC, dI)) (ci := 8) (v := .int (0 : Int32)) (ty := .int) (C := RX6) (T := TX6) (N := 24) hx hb hts iW_X6 tyX6 tyX6_ok nmX6 hown hK hP (fA_D hi rfl) hS 0 rfl rfl 0 (by decide) (hts _ mF_RX6_61) (fun _ h9 => h9) rfl (by decide +kernel) rfl rfl (Nat.le_of_ble_eq_true rfl) dX6_fraction_70 (fun H locs hP _ hS => ?_)
            have hP : va_P (dC, dI) vwCl (wM ad cI cJ (0 : Int32) Ce Le De Ke Kc Ko Kl Kd Ug Ur Va To Tt Td Go Gg Ga Be Bt Si Te Bz Bk) H := hP
            refine lv_aload_n hx hb dX6_fraction_73 rfl (lv_at hl 3 rfl) ?_
            refine va_get (D := (dC, dI)) (ci := 8) (v := .int (0 : Int32)) (C := RX6) (T := TX6) (N := 24) hx hb hts iW_X6 hown hK hP 0 rfl rfl 0 (by decide) (hts _ mF_RX6_61) (fun _ h9 => h9) rfl dX6_fraction_74 ?_
            refine lv_if_le (tgt := 82) hx hb dX6_fraction_77 (by decide) (fun c31 => ?_) (fun c31 => ?_)
            · refine lv_iload_n hx hb dX6_fraction_82 rfl (lv_at hl 4 rfl) ?_
              refine lv_istore (lv' := [(6, .int a0), (4, .long u25.1), (3, .int (1 : Int32)), (0, .ref (ad 0)), (1, .int a0), (2, .int a1)]) hx hb dX6_fraction_83 hl (by decide) rfl (fun ls hl => ?_)
              refine lv_lconst (v := 0) hx hb dX6_fraction_85 (by decide) ?_
              refine lv_lstore (lv' := [(7, .long (0 : Int64)), (6, .int a0), (4, .long u25.1), (3, .int (1 : Int32)), (0, .ref (ad 0)), (1, .int a0), (2, .int a1)]) hx hb dX6_fraction_86 hl (by decide) rfl (fun ls hl => ?_)
              refine lv_iconst (v := 0) hx hb dX6_fraction_88 (by decide) ?_
              refine lv_istore (lv' := [(9, .int (0 : Int32)), (7, .long (0 : Int64)), (6, .int a0), (4, .long u25.1), (3, .int (1 : Int32)), (0, .ref (ad 0)), (1, .int a0), (2, .int a1)]) hx hb dX6_fraction_89 hl (by decide) rfl (fun ls hl => ?_)
              obtain ⟨h33, hs⟩ := hs
              obtain ⟨u32, hu32⟩ : ∃ z, z = L_X6_fraction_91 10 a0 (0 : Int64) (0 : Int32) a1 := ⟨_, rfl⟩
              have hs := hs u32 hu32
              have hex34 : ∀ (H : Heap) (locs : List Loc) (ls : Array Slot), va_P (dC, dI) vwCl (wM ad cI cJ (0 : Int32) Ce Le De Ke Kc Ko Kl Kd Ug Ur Va To Tt Td Go Gg Ga Be Bt Si Te Bz Bk) H → va_S (fA 17 ad s.heap.size) s.heap H locs → lv_has ls 10 [(6, .int u32.1), (7, .long u32.2.1), (9, .int u32.2.2), (4, .long u25.1), (3, .int (1 : Int32)), (0, .ref (ad 0)), (1, .int a0), (2, .int a1)] → W p l e (headSpec (mW yX6_fraction cX6_fraction 10 (some .int)) { frames := 1, cells := 0, slots := 0, locals := 25 }).room s m ([.ref (ad 0), .int a0, .int a1] : List Value).toArray below meth c H locs 0 0 Q9 (F0 m 129 ls []) := by
                intro H locs ls hP hS hl
                refine lv_lload hx hb dX6_fraction_129 (lv_at hl 1 rfl) ?_
                refine lv_lconst (v := 1) hx hb dX6_fraction_131 (by decide) ?_
                refine lv_ladd hx hb dX6_fraction_132 ?_
                refine lv_ldc2 hx hb hown (hts _ mK_RX6_121) dX6_fraction_133 ?_
                refine lv_ldiv hx hb dX6_fraction_136 (by decide) ?_
                refine lv_l2i hx hb dX6_fraction_137 rfl ?_
                rw [hQ9]
                have hf : f_X6_fraction a0 a1 Th = (((u32.2.1 + (1 : Int64)) / (2 : Int64)).toInt32, (0 : Int32)) := by simp only [f_X6_fraction, if_neg c1, if_neg c13, ← hu25, if_neg c29, ← hu32]
                exact W.iret (v := ((u32.2.1 + (1 : Int64)) / (2 : Int64)).toInt32) hx hb hr (fun t ht hW => ⟨⟨((u32.2.1 + (1 : Int64)) / (2 : Int64)).toInt32, (), rfl, by rw [hf], by rw [hf]; show va_P (dC, dI) vwCl _ t.heap; rw [ht]; exact hP⟩, hS.F ht⟩) hS.2.2 dX6_fraction_138
              have hlp35 : ∀ (n : Nat) (x6v : Int32) (x7v : Int64) (x9v : Int32) (H : Heap) (locs : List Loc) (ls : Array Slot), SL_X6_fraction_91 n x6v x7v x9v a1 → u32 = L_X6_fraction_91 n x6v x7v x9v a1 → va_P (dC, dI) vwCl (wM ad cI cJ (0 : Int32) Ce Le De Ke Kc Ko Kl Kd Ug Ur Va To Tt Td Go Gg Ga Be Bt Si Te Bz Bk) H → va_S (fA 17 ad s.heap.size) s.heap H locs → lv_has ls 10 [(6, .int x6v), (7, .long x7v), (9, .int x9v), (4, .long u25.1), (3, .int (1 : Int32)), (0, .ref (ad 0)), (1, .int a0), (2, .int a1)] → W p l e (headSpec (mW yX6_fraction cX6_fraction 10 (some .int)) { frames := 1, cells := 0, slots := 0, locals := 25 }).room s m ([.ref (ad 0), .int a0, .int a1] : List Value).toArray below meth c H locs 0 0 Q9 (F0 m 91 ls []) := by
                intro n
                induction n with
                | zero => intro x6v x7v x9v H locs ls hs; rw [SL_X6_fraction_91] at hs; exact hs.elim
                | succ n ih =>
                  intro x6v x7v x9v H locs ls hs hq36 hP hS hl
                  rw [SL_X6_fraction_91] at hs
                  refine lv_iload hx hb dX6_fraction_91 (lv_at hl 2 rfl) ?_
                  refine lv_iload_n hx hb dX6_fraction_93 rfl (lv_at hl 7 rfl) ?_
                  refine lv_icmp_ge (tgt := 129) hx hb dX6_fraction_94 (by decide) (fun c37 => ?_) (fun c37 => ?_)
                  · have hs := hs.1 c37
                    have he38 : u32 = (x6v, x7v, x9v) := by rw [hq36, L_X6_fraction_91]; simp only [if_pos c37, ↓reduceIte]
                    exact hex34 _ _ _ (by first | exact hP | (rw [he38]; exact hP)) hS (by first | exact lv_sub hl [0, 1, 2, 3, 4, 5, 6, 7] rfl | (rw [he38]; exact lv_sub hl [0, 1, 2, 3, 4, 5, 6, 7] rfl))
                  · have hs := hs.2 c37
                    refine lv_lload hx hb dX6_fraction_97 (lv_at hl 1 rfl) ?_
                    refine lv_ldc2 hx hb hown (hts _ mK_RX6_184) dX6_fraction_99 ?_
                    refine lv_iload hx hb dX6_fraction_102 (lv_at hl 0 rfl) ?_
                    refine lv_bipush (v := 10) hx hb dX6_fraction_104 (by decide) ?_
                    refine lv_irem hx hb dX6_fraction_106 (by decide) ?_
                    refine lv_i2l hx hb dX6_fraction_107 rfl ?_
                    refine lv_lmul hx hb dX6_fraction_108 ?_
                    refine lv_ladd hx hb dX6_fraction_109 ?_
                    refine lv_ldc2 hx hb hown (hts _ mK_RX6_147) dX6_fraction_110 ?_
                    refine lv_ldiv hx hb dX6_fraction_113 (by decide) ?_
                    refine lv_lstore (lv' := [(7, .long ((x7v + ((131072 : Int64) * (x6v - x6v / (10 : Int32) * (10 : Int32)).toInt64)) / (10 : Int64))), (6, .int x6v), (9, .int x9v), (4, .long u25.1), (3, .int (1 : Int32)), (0, .ref (ad 0)), (1, .int a0), (2, .int a1)]) hx hb dX6_fraction_114 hl (by decide) rfl (fun ls hl => ?_)
                    refine lv_iload hx hb dX6_fraction_116 (lv_at hl 1 rfl) ?_
                    refine lv_bipush (v := 10) hx hb dX6_fraction_118 (by decide) ?_
                    refine lv_idiv hx hb dX6_fraction_120 (by decide) ?_
                    refine lv_istore (lv' := [(6, .int (x6v / (10 : Int32))), (7, .long ((x7v + ((131072 : Int64) * (x6v - x6v / (10 : Int32) * (10 : Int32)).toInt64)) / (10 : Int64))), (9, .int x9v), (4, .long u25.1), (3, .int (1 : Int32)), (0, .ref (ad 0)), (1, .int a0), (2, .int a1)]) hx hb dX6_fraction_121 hl (by decide) rfl (fun ls hl => ?_)
                    refine lv_iinc (v := (x9v + 1)) (lv' := [(9, .int (x9v + 1)), (6, .int (x6v / (10 : Int32))), (7, .long ((x7v + ((131072 : Int64) * (x6v - x6v / (10 : Int32) * (10 : Int32)).toInt64)) / (10 : Int64))), (4, .long u25.1), (3, .int (1 : Int32)), (0, .ref (ad 0)), (1, .int a0), (2, .int a1)]) hx hb dX6_fraction_123 hl (k := 2) rfl rfl (by decide) rfl (fun ls hl => ?_)
                    refine lv_goto (tgt := 91) hx hb dX6_fraction_126 (by decide) ?_
                    exact ih (x6v / (10 : Int32)) ((x7v + ((131072 : Int64) * (x6v - x6v / (10 : Int32) * (10 : Int32)).toInt64)) / (10 : Int64)) (x9v + 1) _ _ _ hs (by rw [hq36, L_X6_fraction_91]; simp only [if_neg c37, ↓reduceIte]) hP hS (lv_sub hl [1, 2, 0, 3, 4, 5, 6, 7] rfl)
              exact hlp35 10 a0 (0 : Int64) (0 : Int32) _ _ _ h33 hu32 hP hS (lv_sub hl [2, 1, 0, 3, 4, 5, 6, 7] rfl)
            · exact absurd (by decide) c31
      have hlp39 : ∀ (n : Nat) (x4v : Int64) (x6v : Int32) (H : Heap) (locs : List Loc) (ls : Array Slot), SL_X6_fraction_28 n x4v x6v a1 (1 : Int32) → u25 = L_X6_fraction_28 n x4v x6v a1 (1 : Int32) → va_P (dC, dI) vwCl (wM ad cI cJ Th Ce Le De Ke Kc Ko Kl Kd Ug Ur Va To Tt Td Go Gg Ga Be Bt Si Te Bz Bk) H → va_S (fA 17 ad s.heap.size) s.heap H locs → lv_has ls 10 [(4, .long x4v), (6, .int x6v), (3, .int (1 : Int32)), (0, .ref (ad 0)), (1, .int a0), (2, .int a1)] → W p l e (headSpec (mW yX6_fraction cX6_fraction 10 (some .int)) { frames := 1, cells := 0, slots := 0, locals := 25 }).room s m ([.ref (ad 0), .int a0, .int a1] : List Value).toArray below meth c H locs 0 0 Q9 (F0 m 28 ls []) := by
        intro n
        induction n with
        | zero => intro x4v x6v H locs ls hs; rw [SL_X6_fraction_28] at hs; exact hs.elim
        | succ n ih =>
          intro x4v x6v H locs ls hs hq40 hP hS hl
          rw [SL_X6_fraction_28] at hs
          refine lv_iload hx hb dX6_fraction_28 (lv_at hl 1 rfl) ?_
          refine lv_iload_n hx hb dX6_fraction_30 rfl (lv_at hl 5 rfl) ?_
          refine lv_icmp_ge (tgt := 52) hx hb dX6_fraction_31 (by decide) (fun c41 => ?_) (fun c41 => ?_)
          · have hs := hs.1 c41
            have he42 : u25 = (x4v, x6v) := by rw [hq40, L_X6_fraction_28]; simp only [if_pos c41, ↓reduceIte]
            exact hex27 _ _ _ (by first | exact hP | (rw [he42]; exact hP)) hS (by first | exact lv_sub hl [0, 1, 2, 3, 4, 5] rfl | (rw [he42]; exact lv_sub hl [0, 1, 2, 3, 4, 5] rfl))
          · have hs := hs.2 c41
            refine lv_iload_n hx hb dX6_fraction_34 rfl (lv_at hl 2 rfl) ?_
            refine lv_if_eq (tgt := 52) hx hb dX6_fraction_35 (by decide) (fun c43 => ?_) (fun c43 => ?_)
            · exact absurd c43 (by decide)
            · have hs := hs.2 c43
              refine lv_ldc2 hx hb hown (hts _ mK_RX6_147) dX6_fraction_38 ?_
              refine lv_lload hx hb dX6_fraction_41 (lv_at hl 0 rfl) ?_
              refine lv_lmul hx hb dX6_fraction_43 ?_
              refine lv_lstore (lv' := [(4, .long ((10 : Int64) * x4v)), (6, .int x6v), (3, .int (1 : Int32)), (0, .ref (ad 0)), (1, .int a0), (2, .int a1)]) hx hb dX6_fraction_44 hl (by decide) rfl (fun ls hl => ?_)
              refine lv_iinc (v := (x6v + 1)) (lv' := [(6, .int (x6v + 1)), (4, .long ((10 : Int64) * x4v)), (3, .int (1 : Int32)), (0, .ref (ad 0)), (1, .int a0), (2, .int a1)]) hx hb dX6_fraction_46 hl (k := 1) rfl rfl (by decide) rfl (fun ls hl => ?_)
              refine lv_goto (tgt := 28) hx hb dX6_fraction_49 (by decide) ?_
              exact ih ((10 : Int64) * x4v) (x6v + 1) _ _ _ hs (by rw [hq40, L_X6_fraction_28]; simp only [if_neg c41, if_neg c43, ↓reduceIte]) hP hS (lv_sub hl [1, 0, 2, 3, 4, 5] rfl)
      exact hlp39 10 (1 : Int64) (0 : Int32) _ _ _ h26 hu25 hP hS (lv_sub hl [1, 0, 2, 3, 4, 5] rfl)
theorem q_X6_fraction {p : Program} {l : Launch} {e : Env} {R : Room} {s : State} {m : MethodId} {args : Array Value} {below : List Frame} {meth : Method} {c : Code} {H : Heap} {locs : List Loc} {cells slots : Nat} {Q : State → Prop} {pc : Nat} {ls : Array Slot} {rest : List Value} {cc : ByteArray} {nL idx : Nat} {own : String} {A0 : Nat → Prop} {dC : Nat → ClassId} {dI : Nat → Nat → Nat} {cI cJ : ClassId} {ad : Nat → Nat} {Th : Int32} {Ce : Nat → Int64} {Le : Nat → Int32} {De : Int32} {Ke : Int32} {Kc : Nat → Int64} {Ko : Nat → Int32} {Kl : Nat → Int32} {Kd : Nat → Int32} {Ug : Nat → Int64} {Ur : Nat → Int64} {Va : Nat → Int64} {To : Int32} {Tt : Nat → Int32} {Td : Nat → Int32} {Go : Int32} {Gg : Nat → Int32} {Ga : Nat → Int32} {Be : Int32} {Bt : Nat → Int32} {Si : Int32} {Te : Nat → Int32} {Bz : Int32} {Bk : Nat → Int32} (hx : p.tables.exec = Jvm.exec) (hb : c.code = cc) (hml : c.maxLocals = nL) (hown : s.vm.findClass own = some m.cls) (hts : ∀ w ∈ bigW, w.before args s = true) (hlk : Cond.methodLink own idx yX6_fraction ∈ bigW) (hR : 2 ≤ R.frames ∧ 54 ≤ R.locals) (hf : cells + 0 ≤ R.cells ∧ slots + 0 ≤ R.slots) (hz : ls.size = nL) (hw : (rest.map fun v => v.category).sum ≤ 8) (hS : va_S A0 s.heap H locs) (hd : decode cc pc = .ok (.invokevirtual idx, 3)) (hA : ∀ q, fA 17 ad H.size q → A0 q) (hi : fI 17 ad) (hK : va_K (dC, dI) vwCl [(cI, .int), (cJ, .long)] s) (hP : va_P (dC, dI) vwCl (wM ad cI cJ Th Ce Le De Ke Kc Ko Kl Kd Ug Ur Va To Tt Td Go Gg Ga Be Bt Si Te Bz Bk) H) (a0 : Int32) (a1 : Int32) (hs : S_X6_fraction a0 a1 Th)  (u : Int32 × Int32) (hu : u = f_X6_fraction a0 a1 Th) (k : ∀ (H1 : Heap) (locs1 : List Loc), va_P (dC, dI) vwCl (wM ad cI cJ u.2 Ce Le De Ke Kc Ko Kl Kd Ug Ur Va To Tt Td Go Gg Ga Be Bt Si Te Bz Bk) H1 → va_S A0 s.heap H1 locs1 → W p l e R s m args below meth c H1 locs1 (cells + 0) (slots + 0) Q (F0 m (pc + 3) ls (.int u.1 :: rest))) : W p l e R s m args below meth c H locs cells slots Q (F0 m pc ls (.int a1 :: .int a0 :: .ref (ad 0) :: rest)) := by
  subst hu
  exact va_calli (va_runV (As := [.int a0, .int a1]) (rest := rest) ⟨hx, hb, hml, hown, hts⟩ (c_X6_fraction l dC dI cI cJ ad hi H.size Th Ce Le De Ke Kc Ko Kl Kd Ug Ur Va To Tt Td Go Gg Ga Be Bt Si Te Bz Bk a0 a1 hs) (kV 2 hts hlk mI_X6_fraction mN_RX6 mY_X6_fraction mV_X6_fraction rfl rfl (by decide +kernel) hR) ⟨fun a U g mk q => ⟨q.1, q.2.1, q.2.2.1, va_K.moved (u := U) (U := U.calling g mk a) (Vm.Alike.refl U.vm) q.2.2.2⟩, va_recv hK hP (ci := 8) (q0 := 0) rfl rfl, fun U hU hW => ⟨rfl, by rw [hU], by rw [hU]; exact hP, va_K.moved hW.alike hK⟩⟩ rfl rfl hz rfl (lv_room hw) hd hf) hS (fun q _ h => hA q h) (fun q h => hA q h) (fun r u t H1 locs1 ht hvm hw9 hB hz1 hk1 hS1 => by
    subst hw9
    exact k H1 locs1 (by rw [← ht]; exact hB) hS1)
theorem qf_X6_fraction {p : Program} {l : Launch} {e : Env} {R : Room} {s : State} {m : MethodId} {args : Array Value} {below : List Frame} {meth : Method} {c : Code} {H : Heap} {locs : List Loc} {cells slots : Nat} {Q : State → Prop} {pc : Nat} {ls : Array Slot} {rest : List Value} {cc : ByteArray} {nL idx : Nat} {own : String} {A0 : Nat → Prop} {dC : Nat → ClassId} {dI : Nat → Nat → Nat} {cI cJ : ClassId} {ad : Nat → Nat} {Th : Int32} {Ce : Nat → Int64} {Le : Nat → Int32} {De : Int32} {Ke : Int32} {Kc : Nat → Int64} {Ko : Nat → Int32} {Kl : Nat → Int32} {Kd : Nat → Int32} {Ug : Nat → Int64} {Ur : Nat → Int64} {Va : Nat → Int64} {To : Int32} {Tt : Nat → Int32} {Td : Nat → Int32} {Go : Int32} {Gg : Nat → Int32} {Ga : Nat → Int32} {Be : Int32} {Bt : Nat → Int32} {Si : Int32} {Te : Nat → Int32} {Bz : Int32} {Bk : Nat → Int32} (hx : p.tables.exec = Jvm.exec) (hb : c.code = cc) (hml : c.maxLocals = nL) (hown : s.vm.findClass own = some m.cls) (hts : ∀ w ∈ bigW, w.before args s = true) (hlk : Cond.methodLink own idx yX6_fraction ∈ bigW) (hR : 2 ≤ R.frames ∧ 54 ≤ R.locals) (hf : cells + 0 ≤ R.cells ∧ slots + 0 ≤ R.slots) (hz : ls.size = nL) (hw : (rest.map fun v => v.category).sum ≤ 8) (hS : va_S A0 s.heap H locs) (hd : decode cc pc = .ok (.invokevirtual idx, 3)) (hA : ∀ q, fA 17 ad H.size q → A0 q) (hi : fI 17 ad) (hK : va_K (dC, dI) vwCl [(cI, .int), (cJ, .long)] s) (hP : va_P (dC, dI) vwCl (wM ad cI cJ Th Ce Le De Ke Kc Ko Kl Kd Ug Ur Va To Tt Td Go Gg Ga Be Bt Si Te Bz Bk) H) (a0 : Int32) (a1 : Int32) (hs : S_X6_fraction a0 a1 Th)  (u : Int32 × Int32) (hu : u = f_X6_fraction a0 a1 Th) (k : ∀ (H1 : Heap) (locs1 : List Loc), va_P (dC, dI) vwCl (wM ad cI cJ u.2 Ce Le De Ke Kc Ko Kl Kd Ug Ur Va To Tt Td Go Gg Ga Be Bt Si Te Bz Bk) H1 → va_S A0 s.heap H1 locs1 → (∀ q : Nat, q < H.size → ¬ fA 17 ad H.size q → H1[q]? = H[q]?) → H.size ≤ H1.size → W p l e R s m args below meth c H1 locs1 (cells + 0) (slots + 0) Q (F0 m (pc + 3) ls (.int u.1 :: rest))) : W p l e R s m args below meth c H locs cells slots Q (F0 m pc ls (.int a1 :: .int a0 :: .ref (ad 0) :: rest)) := by
  subst hu
  exact va_calli (va_runV (As := [.int a0, .int a1]) (rest := rest) ⟨hx, hb, hml, hown, hts⟩ (c_X6_fraction l dC dI cI cJ ad hi H.size Th Ce Le De Ke Kc Ko Kl Kd Ug Ur Va To Tt Td Go Gg Ga Be Bt Si Te Bz Bk a0 a1 hs) (kV 2 hts hlk mI_X6_fraction mN_RX6 mY_X6_fraction mV_X6_fraction rfl rfl (by decide +kernel) hR) ⟨fun a U g mk q => ⟨q.1, q.2.1, q.2.2.1, va_K.moved (u := U) (U := U.calling g mk a) (Vm.Alike.refl U.vm) q.2.2.2⟩, va_recv hK hP (ci := 8) (q0 := 0) rfl rfl, fun U hU hW => ⟨rfl, by rw [hU], by rw [hU]; exact hP, va_K.moved hW.alike hK⟩⟩ rfl rfl hz rfl (lv_room hw) hd hf) hS (fun q _ h => hA q h) (fun q h => hA q h) (fun r u t H1 locs1 ht hvm hw9 hB hz1 hk1 hS1 => by
    subst hw9
    exact k H1 locs1 (by rw [← ht]; exact hB) hS1 hk1 hz1)

def f_X6_say (a0 : Int32) (Si : Int32) (Te : Nat → Int32) : Int32 × (Nat → Int32) := ((Si + (1 : Int32)), (upd Te Si.toNatClampNeg a0))
def S_X6_say (a0 : Int32) (Si : Int32) (Te : Nat → Int32) : Prop := (vp_in Si 120) ∧ (True)
set_option maxHeartbeats 4000000 in
set_option maxRecDepth 100000 in
theorem c_X6_say (l : Launch) (dC : Nat → ClassId) (dI : Nat → Nat → Nat) (cI cJ : ClassId) (ad : Nat → Nat) (hi : fI 17 ad) (sz : Nat) (Th : Int32) (Ce : Nat → Int64) (Le : Nat → Int32) (De : Int32) (Ke : Int32) (Kc : Nat → Int64) (Ko : Nat → Int32) (Kl : Nat → Int32) (Kd : Nat → Int32) (Ug : Nat → Int64) (Ur : Nat → Int64) (Va : Nat → Int64) (To : Int32) (Tt : Nat → Int32) (Td : Nat → Int32) (Go : Int32) (Gg : Nat → Int32) (Ga : Nat → Int32) (Be : Int32) (Bt : Nat → Int32) (Si : Int32) (Te : Nat → Int32) (Bz : Int32) (Bk : Nat → Int32) (a0 : Int32) (hs : S_X6_say a0 Si Te) : Met l yX6_say (mW yX6_say cX6_say 2 none) { frames := 0, cells := 0, slots := 0, locals := 0 } (va_Pc [.ref (ad 0), .int a0] (fun U => U.heap.size = sz ∧ va_P (dC, dI) vwCl (wM ad cI cJ Th Ce Le De Ke Kc Ko Kl Kd Ug Ur Va To Tt Td Go Gg Ga Be Bt Si Te Bz Bk) U.heap ∧ va_K (dC, dI) vwCl [(cI, .int), (cJ, .long)] U)) (va_Qv (fun (_ : Unit) => True) (fun _ t => va_P (dC, dI) vwCl (wM ad cI cJ Th Ce Le De Ke Kc Ko Kl Kd Ug Ur Va To Tt Td Go Gg Ga Be Bt ((f_X6_say a0 Si Te).1) ((f_X6_say a0 Si Te).2) Bz Bk) t.heap) (fA 17 ad sz)) 0 0 (fA 17 ad sz) := by
  refine Met.ofW (cc := cX6_say) (maxL := 2) (ret := none) (by decide) rfl ?_
  intro p e s m args below meth c s₁ B hml hv
  obtain ⟨rfl, hsz, hP, hK⟩ := hv
  have hx := B.exec
  have hb := B.bytes
  have hr := B.returns
  have hts := mW_hts (atoms_spec (ws := (mW yX6_say cX6_say 2 none)) B.pre)
  have hown : s.vm.findClass RX6 = some m.cls := findClass_of_methodNamed B.named
  have hlocks := B.notSynchronized
  subst hsz
  have hA : ∀ (n : Nat) (q : Nat), s.heap.size ≤ n → n ≤ q → fA 17 ad s.heap.size q := fun n q h1 h2 => Or.inr (Nat.le_trans h1 h2)
  have hS : va_S (fA 17 ad s.heap.size) s.heap s.heap [] := va_S.rf
  have hA : ∀ q, s.heap.size ≤ q → (fA 17 ad s.heap.size) q := fun q h => Or.inr h
  unfold S_X6_say at hs
  have hl := lv_entry ([.ref (ad 0), .int a0]) (n := 2) (Nat.le_of_ble_eq_true rfl)
  rw [lg_entry_eq]
  generalize (lg_sl ([.ref (ad 0), .int a0]) ++ List.replicate (2 - (lg_sl ([.ref (ad 0), .int a0])).length) Slot.unset).toArray = ls at hl ⊢
  have hl : lv_has ls 2 [(0, .ref (ad 0)), (1, .int a0)] := hl
  refine W_gen (fun Q9 hQ9 => ?_)
  refine lv_aload_n hx hb dX6_say_0 rfl (lv_at hl 0 rfl) ?_
  refine va_get (D := (dC, dI)) (ci := 8) (v := .ref (ad 15)) (C := RX6) (T := TX6) (N := 24) hx hb hts iW_X6 hown hK hP 0 rfl rfl 21 (by decide) (hts _ mF_RX6_53) (fun _ h9 => h9) rfl dX6_say_1 ?_
  refine lv_aload_n hx hb dX6_say_4 rfl (lv_at hl 0 rfl) ?_
  refine va_get (D := (dC, dI)) (ci := 8) (v := .int Si) (C := RX6) (T := TX6) (N := 24) hx hb hts iW_X6 hown hK hP 0 rfl rfl 20 (by decide) (hts _ mF_RX6_186) (fun _ h9 => h9) rfl dX6_say_5 ?_
  refine lv_iload_n hx hb dX6_say_8 rfl (lv_at hl 1 rfl) ?_
  obtain ⟨h1, hs⟩ := hs
  refine va_iast hx hb hK hP (fA_D hi rfl) hS 15 0 rfl rfl h1 dX6_say_9 (fun H locs hP _ hS => ?_)
  have hP : va_P (dC, dI) vwCl (wM ad cI cJ Th Ce Le De Ke Kc Ko Kl Kd Ug Ur Va To Tt Td Go Gg Ga Be Bt Si (upd Te Si.toNatClampNeg a0) Bz Bk) H := hP
  refine lv_aload_n hx hb dX6_say_10 rfl (lv_at hl 0 rfl) ?_
  refine lv_dup hx hb dX6_say_11 rfl ?_
  refine va_get (D := (dC, dI)) (ci := 8) (v := .int Si) (C := RX6) (T := TX6) (N := 24) hx hb hts iW_X6 hown hK hP 0 rfl rfl 20 (by decide) (hts _ mF_RX6_186) (fun _ h9 => h9) rfl dX6_say_12 ?_
  refine lv_iconst (v := 1) hx hb dX6_say_15 (by decide) ?_
  refine lv_iadd hx hb dX6_say_16 ?_
  refine va_put (D := (dC, dI)) (ci := 8) (v := .int (Si + (1 : Int32))) (ty := .int) (C := RX6) (T := TX6) (N := 24) hx hb hts iW_X6 tyX6 tyX6_ok nmX6 hown hK hP (fA_D hi rfl) hS 0 rfl rfl 20 (by decide) (hts _ mF_RX6_186) (fun _ h9 => h9) rfl (by decide +kernel) rfl rfl (Nat.le_of_ble_eq_true rfl) dX6_say_17 (fun H locs hP _ hS => ?_)
  have hP : va_P (dC, dI) vwCl (wM ad cI cJ Th Ce Le De Ke Kc Ko Kl Kd Ug Ur Va To Tt Td Go Gg Ga Be Bt (Si + (1 : Int32)) (upd Te Si.toNatClampNeg a0) Bz Bk) H := hP
  rw [hQ9]
  have hf : f_X6_say a0 Si Te = ((Si + (1 : Int32)), (upd Te Si.toNatClampNeg a0)) := by simp only [f_X6_say]
  exact W.vret hx hb hr (fun t ht hW => ⟨⟨(), rfl, True.intro, by rw [hf]; show va_P (dC, dI) vwCl _ t.heap; rw [ht]; exact hP⟩, hS.F ht⟩) hS.2.2 dX6_say_20
theorem q_X6_say {p : Program} {l : Launch} {e : Env} {R : Room} {s : State} {m : MethodId} {args : Array Value} {below : List Frame} {meth : Method} {c : Code} {H : Heap} {locs : List Loc} {cells slots : Nat} {Q : State → Prop} {pc : Nat} {ls : Array Slot} {rest : List Value} {cc : ByteArray} {nL idx : Nat} {own : String} {A0 : Nat → Prop} {dC : Nat → ClassId} {dI : Nat → Nat → Nat} {cI cJ : ClassId} {ad : Nat → Nat} {Th : Int32} {Ce : Nat → Int64} {Le : Nat → Int32} {De : Int32} {Ke : Int32} {Kc : Nat → Int64} {Ko : Nat → Int32} {Kl : Nat → Int32} {Kd : Nat → Int32} {Ug : Nat → Int64} {Ur : Nat → Int64} {Va : Nat → Int64} {To : Int32} {Tt : Nat → Int32} {Td : Nat → Int32} {Go : Int32} {Gg : Nat → Int32} {Ga : Nat → Int32} {Be : Int32} {Bt : Nat → Int32} {Si : Int32} {Te : Nat → Int32} {Bz : Int32} {Bk : Nat → Int32} (hx : p.tables.exec = Jvm.exec) (hb : c.code = cc) (hml : c.maxLocals = nL) (hown : s.vm.findClass own = some m.cls) (hts : ∀ w ∈ bigW, w.before args s = true) (hlk : Cond.methodLink own idx yX6_say ∈ bigW) (hR : 1 ≤ R.frames ∧ 21 ≤ R.locals) (hf : cells + 0 ≤ R.cells ∧ slots + 0 ≤ R.slots) (hz : ls.size = nL) (hw : (rest.map fun v => v.category).sum ≤ 8) (hS : va_S A0 s.heap H locs) (hd : decode cc pc = .ok (.invokevirtual idx, 3)) (hA : ∀ q, fA 17 ad H.size q → A0 q) (hi : fI 17 ad) (hK : va_K (dC, dI) vwCl [(cI, .int), (cJ, .long)] s) (hP : va_P (dC, dI) vwCl (wM ad cI cJ Th Ce Le De Ke Kc Ko Kl Kd Ug Ur Va To Tt Td Go Gg Ga Be Bt Si Te Bz Bk) H) (a0 : Int32) (hs : S_X6_say a0 Si Te)  (u : Int32 × (Nat → Int32)) (hu : u = f_X6_say a0 Si Te) (k : ∀ (H1 : Heap) (locs1 : List Loc), va_P (dC, dI) vwCl (wM ad cI cJ Th Ce Le De Ke Kc Ko Kl Kd Ug Ur Va To Tt Td Go Gg Ga Be Bt u.1 u.2 Bz Bk) H1 → va_S A0 s.heap H1 locs1 → W p l e R s m args below meth c H1 locs1 (cells + 0) (slots + 0) Q (F0 m (pc + 3) ls (rest))) : W p l e R s m args below meth c H locs cells slots Q (F0 m pc ls (.int a0 :: .ref (ad 0) :: rest)) := by
  subst hu
  exact va_callv (va_runV (As := [.int a0]) (rest := rest) ⟨hx, hb, hml, hown, hts⟩ (c_X6_say l dC dI cI cJ ad hi H.size Th Ce Le De Ke Kc Ko Kl Kd Ug Ur Va To Tt Td Go Gg Ga Be Bt Si Te Bz Bk a0 hs) (kV 1 hts hlk mI_X6_say mN_RX6 mY_X6_say mV_X6_say rfl rfl (by decide +kernel) hR) ⟨fun a U g mk q => ⟨q.1, q.2.1, q.2.2.1, va_K.moved (u := U) (U := U.calling g mk a) (Vm.Alike.refl U.vm) q.2.2.2⟩, va_recv hK hP (ci := 8) (q0 := 0) rfl rfl, fun U hU hW => ⟨rfl, by rw [hU], by rw [hU]; exact hP, va_K.moved hW.alike hK⟩⟩ rfl rfl hz rfl (lv_room hw) hd hf) hS (fun q _ h => hA q h) (fun q h => hA q h) (fun u t H1 locs1 ht hvm hw9 hB hz1 hk1 hS1 => by
    skip
    exact k H1 locs1 (by rw [← ht]; exact hB) hS1)

def L_X6_sayNumber_81 : Nat → Int32 → (Nat → Int32) → Int32 → (Nat → Int32) → Int32 × (Nat → Int32) × Int32
  | 0, Si, Te, Bz, Bk => (Si, Te, Bz)
  | n + 1, Si, Te, Bz, Bk => (if Bz ≤ 0 then (Si, Te, Bz) else (let u9 := f_X6_say (Bk (Bz - (1 : Int32)).toNatClampNeg) Si Te; L_X6_sayNumber_81 n u9.1 u9.2 (Bz - (1 : Int32)) Bk))
def SL_X6_sayNumber_81 : Nat → Int32 → (Nat → Int32) → Int32 → (Nat → Int32) → Prop
  | 0, _, _, _, _ => False
  | n + 1, Si, Te, Bz, Bk => (Bz ≤ 0 → (True)) ∧ (¬ Bz ≤ 0 → ((vp_in (Bz - (1 : Int32)) 20) ∧ ((S_X6_say (Bk (Bz - (1 : Int32)).toNatClampNeg) Si Te) ∧ (∀ u9, u9 = f_X6_say (Bk (Bz - (1 : Int32)).toNatClampNeg) Si Te → (SL_X6_sayNumber_81 n u9.1 u9.2 (Bz - (1 : Int32)) Bk)))))
def L_X6_sayNumber_30 : Nat → Int64 → Int32 → (Nat → Int32) → Int64 × Int32 × (Nat → Int32)
  | 0, x3, Bz, Bk => (x3, Bz, Bk)
  | n + 1, x3, Bz, Bk => (if (0 : Int64) < x3 then L_X6_sayNumber_30 n (x3 / (10 : Int64)) (Bz + (1 : Int32)) (upd Bk Bz.toNatClampNeg ((48 : Int64) + (x3 - x3 / (10 : Int64) * (10 : Int64))).toInt32) else (if Bz = 0 then L_X6_sayNumber_30 n (x3 / (10 : Int64)) (Bz + (1 : Int32)) (upd Bk Bz.toNatClampNeg ((48 : Int64) + (x3 - x3 / (10 : Int64) * (10 : Int64))).toInt32) else (x3, Bz, Bk)))
def SL_X6_sayNumber_30 : Nat → Int64 → Int32 → (Nat → Int32) → Prop
  | 0, _, _, _ => False
  | n + 1, x3, Bz, Bk => ((0 : Int64) < x3 → ((vp_in Bz 20) ∧ (SL_X6_sayNumber_30 n (x3 / (10 : Int64)) (Bz + (1 : Int32)) (upd Bk Bz.toNatClampNeg ((48 : Int64) + (x3 - x3 / (10 : Int64) * (10 : Int64))).toInt32)))) ∧ (¬ (0 : Int64) < x3 → ((Bz = 0 → ((vp_in Bz 20) ∧ (SL_X6_sayNumber_30 n (x3 / (10 : Int64)) (Bz + (1 : Int32)) (upd Bk Bz.toNatClampNeg ((48 : Int64) + (x3 - x3 / (10 : Int64) * (10 : Int64))).toInt32)))) ∧ (¬ Bz = 0 → (True))))
def f_X6_sayNumber (a0 : Int64) (Si : Int32) (Te : Nat → Int32) (Bz : Int32) (Bk : Nat → Int32) : Int32 × (Nat → Int32) × Int32 × (Nat → Int32) := (if (0 : Int64) ≤ a0 then (let u3 := L_X6_sayNumber_30 21 a0 (0 : Int32) Bk; (let u6 := L_X6_sayNumber_81 21 Si Te u3.2.1 u3.2.2; (u6.1, u6.2.1, u6.2.2, u3.2.2))) else (let u24 := f_X6_say (45 : Int32) Si Te; (let u26 := L_X6_sayNumber_30 21 (-a0) (0 : Int32) Bk; (let u29 := L_X6_sayNumber_81 21 u24.1 u24.2 u26.2.1 u26.2.2; (u29.1, u29.2.1, u29.2.2, u26.2.2)))))
def S_X6_sayNumber (a0 : Int64) (Si : Int32) (Te : Nat → Int32) (Bz : Int32) (Bk : Nat → Int32) : Prop := ((0 : Int64) ≤ a0 → ((SL_X6_sayNumber_30 21 a0 (0 : Int32) Bk) ∧ (∀ u3, u3 = L_X6_sayNumber_30 21 a0 (0 : Int32) Bk → ((SL_X6_sayNumber_81 21 Si Te u3.2.1 u3.2.2) ∧ (∀ u6, u6 = L_X6_sayNumber_81 21 Si Te u3.2.1 u3.2.2 → (True)))))) ∧ (¬ (0 : Int64) ≤ a0 → ((S_X6_say (45 : Int32) Si Te) ∧ (∀ u24, u24 = f_X6_say (45 : Int32) Si Te → ((SL_X6_sayNumber_30 21 (-a0) (0 : Int32) Bk) ∧ (∀ u26, u26 = L_X6_sayNumber_30 21 (-a0) (0 : Int32) Bk → ((SL_X6_sayNumber_81 21 u24.1 u24.2 u26.2.1 u26.2.2) ∧ (∀ u29, u29 = L_X6_sayNumber_81 21 u24.1 u24.2 u26.2.1 u26.2.2 → (True))))))))
set_option maxHeartbeats 4000000 in
set_option maxRecDepth 100000 in
theorem c_X6_sayNumber (l : Launch) (dC : Nat → ClassId) (dI : Nat → Nat → Nat) (cI cJ : ClassId) (ad : Nat → Nat) (hi : fI 17 ad) (sz : Nat) (Th : Int32) (Ce : Nat → Int64) (Le : Nat → Int32) (De : Int32) (Ke : Int32) (Kc : Nat → Int64) (Ko : Nat → Int32) (Kl : Nat → Int32) (Kd : Nat → Int32) (Ug : Nat → Int64) (Ur : Nat → Int64) (Va : Nat → Int64) (To : Int32) (Tt : Nat → Int32) (Td : Nat → Int32) (Go : Int32) (Gg : Nat → Int32) (Ga : Nat → Int32) (Be : Int32) (Bt : Nat → Int32) (Si : Int32) (Te : Nat → Int32) (Bz : Int32) (Bk : Nat → Int32) (a0 : Int64) (hs : S_X6_sayNumber a0 Si Te Bz Bk) : Met l yX6_sayNumber (mW yX6_sayNumber cX6_sayNumber 5 none) { frames := 1, cells := 0, slots := 0, locals := 21 } (va_Pc [.ref (ad 0), .long a0] (fun U => U.heap.size = sz ∧ va_P (dC, dI) vwCl (wM ad cI cJ Th Ce Le De Ke Kc Ko Kl Kd Ug Ur Va To Tt Td Go Gg Ga Be Bt Si Te Bz Bk) U.heap ∧ va_K (dC, dI) vwCl [(cI, .int), (cJ, .long)] U)) (va_Qv (fun (_ : Unit) => True) (fun _ t => va_P (dC, dI) vwCl (wM ad cI cJ Th Ce Le De Ke Kc Ko Kl Kd Ug Ur Va To Tt Td Go Gg Ga Be Bt ((f_X6_sayNumber a0 Si Te Bz Bk).1) ((f_X6_sayNumber a0 Si Te Bz Bk).2.1) ((f_X6_sayNumber a0 Si Te Bz Bk).2.2.1) ((f_X6_sayNumber a0 Si Te Bz Bk).2.2.2)) t.heap) (fA 17 ad sz)) 0 0 (fA 17 ad sz) := by
  refine Met.ofW (cc := cX6_sayNumber) (maxL := 5) (ret := none) (by decide) rfl ?_
  intro p e s m args below meth c s₁ B hml hv
  obtain ⟨rfl, hsz, hP, hK⟩ := hv
  have hx := B.exec
  have hb := B.bytes
  have hr := B.returns
  have hts := mW_hts (atoms_spec (ws := (mW yX6_sayNumber cX6_sayNumber 5 none)) B.pre)
  have hown : s.vm.findClass RX6 = some m.cls := findClass_of_methodNamed B.named
  have hlocks := B.notSynchronized
  subst hsz
  have hA : ∀ (n : Nat) (q : Nat), s.heap.size ≤ n → n ≤ q → fA 17 ad s.heap.size q := fun n q h1 h2 => Or.inr (Nat.le_trans h1 h2)
  have hS : va_S (fA 17 ad s.heap.size) s.heap s.heap [] := va_S.rf
  have hA : ∀ q, s.heap.size ≤ q → (fA 17 ad s.heap.size) q := fun q h => Or.inr h
  unfold S_X6_sayNumber at hs
  have hl := lv_entry ([.ref (ad 0), .long a0]) (n := 5) (Nat.le_of_ble_eq_true rfl)
  rw [lg_entry_eq]
  generalize (lg_sl ([.ref (ad 0), .long a0]) ++ List.replicate (5 - (lg_sl ([.ref (ad 0), .long a0])).length) Slot.unset).toArray = ls at hl ⊢
  have hl : lv_has ls 5 [(0, .ref (ad 0)), (1, .long a0)] := hl
  refine W_gen (fun Q9 hQ9 => ?_)
  refine lv_lload_n hx hb dX6_sayNumber_0 rfl (lv_at hl 1 rfl) ?_
  refine lv_lconst (v := 0) hx hb dX6_sayNumber_1 (by decide) ?_
  refine W.lcmp hx hb dX6_sayNumber_2 ?_
  refine lv_if_ge (tgt := 12) hx hb dX6_sayNumber_3 (by decide) (fun c1 => ?_) (fun c1 => ?_)
  · have c1 : (0 : Int64) ≤ a0 := lc_ge.mp c1
    have hs := hs.1 c1
    refine lv_aload_n hx hb dX6_sayNumber_12 rfl (lv_at hl 0 rfl) ?_
    refine lv_iconst (v := 0) hx hb dX6_sayNumber_13 (by decide) ?_
    refine va_put (D := (dC, dI)) (ci := 8) (v := .int (0 : Int32)) (ty := .int) (C := RX6) (T := TX6) (N := 24) hx hb hts iW_X6 tyX6 tyX6_ok nmX6 hown hK hP (fA_D hi rfl) hS 0 rfl rfl 22 (by decide) (hts _ mF_RX6_193) (fun _ h9 => h9) rfl (by decide +kernel) rfl rfl (Nat.le_of_ble_eq_true rfl) dX6_sayNumber_14 (fun H locs hP _ hS => ?_)
    have hP : va_P (dC, dI) vwCl (wM ad cI cJ Th Ce Le De Ke Kc Ko Kl Kd Ug Ur Va To Tt Td Go Gg Ga Be Bt Si Te (0 : Int32) Bk) H := hP
    refine lv_lload_n hx hb dX6_sayNumber_17 rfl (lv_at hl 1 rfl) ?_
    refine lv_lconst (v := 0) hx hb dX6_sayNumber_18 (by decide) ?_
    refine W.lcmp hx hb dX6_sayNumber_19 ?_
    refine lv_if_ge (tgt := 28) hx hb dX6_sayNumber_20 (by decide) (fun c2 => ?_) (fun c2 => ?_)
    · have c2 : (0 : Int64) ≤ a0 := lc_ge.mp c2
      refine lv_lload_n hx hb dX6_sayNumber_28 rfl (lv_at hl 1 rfl) ?_
      refine lv_lstore_n (lv' := [(3, .long a0), (0, .ref (ad 0)), (1, .long a0)]) hx hb dX6_sayNumber_29 rfl hl (by decide) rfl (fun ls hl => ?_)
      obtain ⟨h4, hs⟩ := hs
      obtain ⟨u3, hu3⟩ : ∃ z, z = L_X6_sayNumber_30 21 a0 (0 : Int32) Bk := ⟨_, rfl⟩
      have hs := hs u3 hu3
      have hex5 : ∀ (H : Heap) (locs : List Loc) (ls : Array Slot), va_P (dC, dI) vwCl (wM ad cI cJ Th Ce Le De Ke Kc Ko Kl Kd Ug Ur Va To Tt Td Go Gg Ga Be Bt Si Te u3.2.1 u3.2.2) H → va_S (fA 17 ad s.heap.size) s.heap H locs → lv_has ls 5 [(3, .long u3.1), (0, .ref (ad 0)), (1, .long a0)] → W p l e (headSpec (mW yX6_sayNumber cX6_sayNumber 5 none) { frames := 1, cells := 0, slots := 0, locals := 21 }).room s m ([.ref (ad 0), .long a0] : List Value).toArray below meth c H locs 0 0 Q9 (F0 m 81 ls []) := by
        intro H locs ls hP hS hl
        obtain ⟨h7, hs⟩ := hs
        obtain ⟨u6, hu6⟩ : ∃ z, z = L_X6_sayNumber_81 21 Si Te u3.2.1 u3.2.2 := ⟨_, rfl⟩
        have hs := hs u6 hu6
        have hex8 : ∀ (H : Heap) (locs : List Loc) (ls : Array Slot), va_P (dC, dI) vwCl (wM ad cI cJ Th Ce Le De Ke Kc Ko Kl Kd Ug Ur Va To Tt Td Go Gg Ga Be Bt u6.1 u6.2.1 u6.2.2 u3.2.2) H → va_S (fA 17 ad s.heap.size) s.heap H locs → lv_has ls 5 [(3, .long u3.1), (0, .ref (ad 0)), (1, .long a0)] → W p l e (headSpec (mW yX6_sayNumber cX6_sayNumber 5 none) { frames := 1, cells := 0, slots := 0, locals := 21 }).room s m ([.ref (ad 0), .long a0] : List Value).toArray below meth c H locs 0 0 Q9 (F0 m 114 ls []) := by
          intro H locs ls hP hS hl
          rw [hQ9]
          have hf : f_X6_sayNumber a0 Si Te Bz Bk = (u6.1, u6.2.1, u6.2.2, u3.2.2) := by simp only [f_X6_sayNumber, if_pos c1, ← hu3, ← hu6]
          exact W.vret hx hb hr (fun t ht hW => ⟨⟨(), rfl, True.intro, by rw [hf]; show va_P (dC, dI) vwCl _ t.heap; rw [ht]; exact hP⟩, hS.F ht⟩) hS.2.2 dX6_sayNumber_114
        have hlp9 : ∀ (n : Nat) (Siv : Int32) (Tev : Nat → Int32) (Bzv : Int32) (H : Heap) (locs : List Loc) (ls : Array Slot), SL_X6_sayNumber_81 n Siv Tev Bzv u3.2.2 → u6 = L_X6_sayNumber_81 n Siv Tev Bzv u3.2.2 → va_P (dC, dI) vwCl (wM ad cI cJ Th Ce Le De Ke Kc Ko Kl Kd Ug Ur Va To Tt Td Go Gg Ga Be Bt Siv Tev Bzv u3.2.2) H → va_S (fA 17 ad s.heap.size) s.heap H locs → lv_has ls 5 [(3, .long u3.1), (0, .ref (ad 0)), (1, .long a0)] → W p l e (headSpec (mW yX6_sayNumber cX6_sayNumber 5 none) { frames := 1, cells := 0, slots := 0, locals := 21 }).room s m ([.ref (ad 0), .long a0] : List Value).toArray below meth c H locs 0 0 Q9 (F0 m 81 ls []) := by
          intro n
          induction n with
          | zero => intro Siv Tev Bzv H locs ls hs; rw [SL_X6_sayNumber_81] at hs; exact hs.elim
          | succ n ih =>
            intro Siv Tev Bzv H locs ls hs hq10 hP hS hl
            rw [SL_X6_sayNumber_81] at hs
            refine lv_aload_n hx hb dX6_sayNumber_81 rfl (lv_at hl 1 rfl) ?_
            refine va_get (D := (dC, dI)) (ci := 8) (v := .int Bzv) (C := RX6) (T := TX6) (N := 24) hx hb hts iW_X6 hown hK hP 0 rfl rfl 22 (by decide) (hts _ mF_RX6_193) (fun _ h9 => h9) rfl dX6_sayNumber_82 ?_
            refine lv_if_le (tgt := 114) hx hb dX6_sayNumber_85 (by decide) (fun c11 => ?_) (fun c11 => ?_)
            · have hs := hs.1 c11
              have he12 : u6 = (Siv, Tev, Bzv) := by rw [hq10, L_X6_sayNumber_81]; simp only [if_pos c11, ↓reduceIte]
              exact hex8 _ _ _ (by first | exact hP | (rw [he12]; exact hP)) hS (by first | exact lv_sub hl [0, 1, 2] rfl | (rw [he12]; exact lv_sub hl [0, 1, 2] rfl))
            · have hs := hs.2 c11
              refine lv_aload_n hx hb dX6_sayNumber_88 rfl (lv_at hl 1 rfl) ?_
              refine lv_dup hx hb dX6_sayNumber_89 rfl ?_
              refine va_get (D := (dC, dI)) (ci := 8) (v := .int Bzv) (C := RX6) (T := TX6) (N := 24) hx hb hts iW_X6 hown hK hP 0 rfl rfl 22 (by decide) (hts _ mF_RX6_193) (fun _ h9 => h9) rfl dX6_sayNumber_90 ?_
              refine lv_iconst (v := 1) hx hb dX6_sayNumber_93 (by decide) ?_
              refine lv_isub hx hb dX6_sayNumber_94 ?_
              refine va_put (D := (dC, dI)) (ci := 8) (v := .int (Bzv - (1 : Int32))) (ty := .int) (C := RX6) (T := TX6) (N := 24) hx hb hts iW_X6 tyX6 tyX6_ok nmX6 hown hK hP (fA_D hi rfl) hS 0 rfl rfl 22 (by decide) (hts _ mF_RX6_193) (fun _ h9 => h9) rfl (by decide +kernel) rfl rfl (Nat.le_of_ble_eq_true rfl) dX6_sayNumber_95 (fun H locs hP _ hS => ?_)
              have hP : va_P (dC, dI) vwCl (wM ad cI cJ Th Ce Le De Ke Kc Ko Kl Kd Ug Ur Va To Tt Td Go Gg Ga Be Bt Siv Tev (Bzv - (1 : Int32)) u3.2.2) H := hP
              refine lv_aload_n hx hb dX6_sayNumber_98 rfl (lv_at hl 1 rfl) ?_
              refine lv_aload_n hx hb dX6_sayNumber_99 rfl (lv_at hl 1 rfl) ?_
              refine va_get (D := (dC, dI)) (ci := 8) (v := .ref (ad 16)) (C := RX6) (T := TX6) (N := 24) hx hb hts iW_X6 hown hK hP 0 rfl rfl 23 (by decide) (hts _ mF_RX6_56) (fun _ h9 => h9) rfl dX6_sayNumber_100 ?_
              refine lv_aload_n hx hb dX6_sayNumber_103 rfl (lv_at hl 1 rfl) ?_
              refine va_get (D := (dC, dI)) (ci := 8) (v := .int (Bzv - (1 : Int32))) (C := RX6) (T := TX6) (N := 24) hx hb hts iW_X6 hown hK hP 0 rfl rfl 22 (by decide) (hts _ mF_RX6_193) (fun _ h9 => h9) rfl dX6_sayNumber_104 ?_
              obtain ⟨h13, hs⟩ := hs
              refine va_iald hx hb hK hP 16 0 rfl rfl h13 dX6_sayNumber_107 ?_
              obtain ⟨h14, hs⟩ := hs
              obtain ⟨u15, hu15⟩ : ∃ z, z = f_X6_say (u3.2.2 (Bzv - (1 : Int32)).toNatClampNeg) Siv Tev := ⟨_, rfl⟩
              have hs := hs u15 hu15
              refine q_X6_say hx hb hml hown hts mM_RX6_189 ⟨Nat.le_of_ble_eq_true rfl, Nat.le_of_ble_eq_true rfl⟩ ⟨Nat.le_of_ble_eq_true rfl, Nat.le_of_ble_eq_true rfl⟩ hl.1 (Nat.le_of_ble_eq_true rfl) hS dX6_sayNumber_108 (fun _ h9 => fA_mono hS.1 h9) hi hK hP (u3.2.2 (Bzv - (1 : Int32)).toNatClampNeg) h14 u15 hu15 (fun H locs hP hS => ?_)
              refine lv_goto (tgt := 81) hx hb dX6_sayNumber_111 (by decide) ?_
              exact ih u15.1 u15.2 (Bzv - (1 : Int32)) _ _ _ hs (by rw [hq10, L_X6_sayNumber_81]; simp only [if_neg c11, ← hu15, ↓reduceIte]) hP hS (lv_sub hl [0, 1, 2] rfl)
        exact hlp9 21 Si Te u3.2.1 _ _ _ h7 hu6 hP hS (lv_sub hl [0, 1, 2] rfl)
      have hlp16 : ∀ (n : Nat) (x3v : Int64) (Bzv : Int32) (Bkv : Nat → Int32) (H : Heap) (locs : List Loc) (ls : Array Slot), SL_X6_sayNumber_30 n x3v Bzv Bkv → u3 = L_X6_sayNumber_30 n x3v Bzv Bkv → va_P (dC, dI) vwCl (wM ad cI cJ Th Ce Le De Ke Kc Ko Kl Kd Ug Ur Va To Tt Td Go Gg Ga Be Bt Si Te Bzv Bkv) H → va_S (fA 17 ad s.heap.size) s.heap H locs → lv_has ls 5 [(3, .long x3v), (0, .ref (ad 0)), (1, .long a0)] → W p l e (headSpec (mW yX6_sayNumber cX6_sayNumber 5 none) { frames := 1, cells := 0, slots := 0, locals := 21 }).room s m ([.ref (ad 0), .long a0] : List Value).toArray below meth c H locs 0 0 Q9 (F0 m 30 ls []) := by
        intro n
        induction n with
        | zero => intro x3v Bzv Bkv H locs ls hs; rw [SL_X6_sayNumber_30] at hs; exact hs.elim
        | succ n ih =>
          intro x3v Bzv Bkv H locs ls hs hq17 hP hS hl
          rw [SL_X6_sayNumber_30] at hs
          refine lv_lload_n hx hb dX6_sayNumber_30 rfl (lv_at hl 0 rfl) ?_
          refine lv_lconst (v := 0) hx hb dX6_sayNumber_31 (by decide) ?_
          refine W.lcmp hx hb dX6_sayNumber_32 ?_
          refine lv_if_gt (tgt := 43) hx hb dX6_sayNumber_33 (by decide) (fun c18 => ?_) (fun c18 => ?_)
          · have c18 : (0 : Int64) < x3v := lc_gt.mp c18
            have hs := hs.1 c18
            refine lv_aload_n hx hb dX6_sayNumber_43 rfl (lv_at hl 1 rfl) ?_
            refine va_get (D := (dC, dI)) (ci := 8) (v := .ref (ad 16)) (C := RX6) (T := TX6) (N := 24) hx hb hts iW_X6 hown hK hP 0 rfl rfl 23 (by decide) (hts _ mF_RX6_56) (fun _ h9 => h9) rfl dX6_sayNumber_44 ?_
            refine lv_aload_n hx hb dX6_sayNumber_47 rfl (lv_at hl 1 rfl) ?_
            refine va_get (D := (dC, dI)) (ci := 8) (v := .int Bzv) (C := RX6) (T := TX6) (N := 24) hx hb hts iW_X6 hown hK hP 0 rfl rfl 22 (by decide) (hts _ mF_RX6_193) (fun _ h9 => h9) rfl dX6_sayNumber_48 ?_
            refine lv_ldc2 hx hb hown (hts _ mK_RX6_196) dX6_sayNumber_51 ?_
            refine lv_lload_n hx hb dX6_sayNumber_54 rfl (lv_at hl 0 rfl) ?_
            refine lv_ldc2 hx hb hown (hts _ mK_RX6_147) dX6_sayNumber_55 ?_
            refine lv_lrem hx hb dX6_sayNumber_58 (by decide) ?_
            refine lv_ladd hx hb dX6_sayNumber_59 ?_
            refine lv_l2i hx hb dX6_sayNumber_60 rfl ?_
            obtain ⟨h19, hs⟩ := hs
            refine va_iast hx hb hK hP (fA_D hi rfl) hS 16 0 rfl rfl h19 dX6_sayNumber_61 (fun H locs hP _ hS => ?_)
            have hP : va_P (dC, dI) vwCl (wM ad cI cJ Th Ce Le De Ke Kc Ko Kl Kd Ug Ur Va To Tt Td Go Gg Ga Be Bt Si Te Bzv (upd Bkv Bzv.toNatClampNeg ((48 : Int64) + (x3v - x3v / (10 : Int64) * (10 : Int64))).toInt32)) H := hP
            refine lv_aload_n hx hb dX6_sayNumber_62 rfl (lv_at hl 1 rfl) ?_
            refine lv_dup hx hb dX6_sayNumber_63 rfl ?_
            refine va_get (D := (dC, dI)) (ci := 8) (v := .int Bzv) (C := RX6) (T := TX6) (N := 24) hx hb hts iW_X6 hown hK hP 0 rfl rfl 22 (by decide) (hts _ mF_RX6_193) (fun _ h9 => h9) rfl dX6_sayNumber_64 ?_
            refine lv_iconst (v := 1) hx hb dX6_sayNumber_67 (by decide) ?_
            refine lv_iadd hx hb dX6_sayNumber_68 ?_
            refine va_put (D := (dC, dI)) (ci := 8) (v := .int (Bzv + (1 : Int32))) (ty := .int) (C := RX6) (T := TX6) (N := 24) hx hb hts iW_X6 tyX6 tyX6_ok nmX6 hown hK hP (fA_D hi rfl) hS 0 rfl rfl 22 (by decide) (hts _ mF_RX6_193) (fun _ h9 => h9) rfl (by decide +kernel) rfl rfl (Nat.le_of_ble_eq_true rfl) dX6_sayNumber_69 (fun H locs hP _ hS => ?_)
            have hP : va_P (dC, dI) vwCl (wM ad cI cJ Th Ce Le De Ke Kc Ko Kl Kd Ug Ur Va To Tt Td Go Gg Ga Be Bt Si Te (Bzv + (1 : Int32)) (upd Bkv Bzv.toNatClampNeg ((48 : Int64) + (x3v - x3v / (10 : Int64) * (10 : Int64))).toInt32)) H := hP
            refine lv_lload_n hx hb dX6_sayNumber_72 rfl (lv_at hl 0 rfl) ?_
            refine lv_ldc2 hx hb hown (hts _ mK_RX6_147) dX6_sayNumber_73 ?_
            refine lv_ldiv hx hb dX6_sayNumber_76 (by decide) ?_
            refine lv_lstore_n (lv' := [(3, .long (x3v / (10 : Int64))), (0, .ref (ad 0)), (1, .long a0)]) hx hb dX6_sayNumber_77 rfl hl (by decide) rfl (fun ls hl => ?_)
            refine lv_goto (tgt := 30) hx hb dX6_sayNumber_78 (by decide) ?_
            exact ih (x3v / (10 : Int64)) (Bzv + (1 : Int32)) (upd Bkv Bzv.toNatClampNeg ((48 : Int64) + (x3v - x3v / (10 : Int64) * (10 : Int64))).toInt32) _ _ _ hs (by rw [hq17, L_X6_sayNumber_30]; simp only [if_pos c18, ↓reduceIte]) hP hS (lv_sub hl [0, 1, 2] rfl)
          · have c18 : ¬ (0 : Int64) < x3v := fun z => c18 (lc_gt.mpr z)
            have hs := hs.2 c18
            refine lv_aload_n hx hb dX6_sayNumber_36 rfl (lv_at hl 1 rfl) ?_
            refine va_get (D := (dC, dI)) (ci := 8) (v := .int Bzv) (C := RX6) (T := TX6) (N := 24) hx hb hts iW_X6 hown hK hP 0 rfl rfl 22 (by decide) (hts _ mF_RX6_193) (fun _ h9 => h9) rfl dX6_sayNumber_37 ?_
            refine lv_if_ne (tgt := 81) hx hb dX6_sayNumber_40 (by decide) (fun c20 => ?_) (fun c20 => ?_)
            · have hs := hs.2 c20
              have he21 : u3 = (x3v, Bzv, Bkv) := by rw [hq17, L_X6_sayNumber_30]; simp only [if_neg c18, if_neg c20, ↓reduceIte]
              exact hex5 _ _ _ (by first | exact hP | (rw [he21]; exact hP)) hS (by first | exact lv_sub hl [0, 1, 2] rfl | (rw [he21]; exact lv_sub hl [0, 1, 2] rfl))
            · have hs := hs.1 c20
              refine lv_aload_n hx hb dX6_sayNumber_43 rfl (lv_at hl 1 rfl) ?_
              refine va_get (D := (dC, dI)) (ci := 8) (v := .ref (ad 16)) (C := RX6) (T := TX6) (N := 24) hx hb hts iW_X6 hown hK hP 0 rfl rfl 23 (by decide) (hts _ mF_RX6_56) (fun _ h9 => h9) rfl dX6_sayNumber_44 ?_
              refine lv_aload_n hx hb dX6_sayNumber_47 rfl (lv_at hl 1 rfl) ?_
              refine va_get (D := (dC, dI)) (ci := 8) (v := .int Bzv) (C := RX6) (T := TX6) (N := 24) hx hb hts iW_X6 hown hK hP 0 rfl rfl 22 (by decide) (hts _ mF_RX6_193) (fun _ h9 => h9) rfl dX6_sayNumber_48 ?_
              refine lv_ldc2 hx hb hown (hts _ mK_RX6_196) dX6_sayNumber_51 ?_
              refine lv_lload_n hx hb dX6_sayNumber_54 rfl (lv_at hl 0 rfl) ?_
              refine lv_ldc2 hx hb hown (hts _ mK_RX6_147) dX6_sayNumber_55 ?_
              refine lv_lrem hx hb dX6_sayNumber_58 (by decide) ?_
              refine lv_ladd hx hb dX6_sayNumber_59 ?_
              refine lv_l2i hx hb dX6_sayNumber_60 rfl ?_
              obtain ⟨h22, hs⟩ := hs
              refine va_iast hx hb hK hP (fA_D hi rfl) hS 16 0 rfl rfl h22 dX6_sayNumber_61 (fun H locs hP _ hS => ?_)
              have hP : va_P (dC, dI) vwCl (wM ad cI cJ Th Ce Le De Ke Kc Ko Kl Kd Ug Ur Va To Tt Td Go Gg Ga Be Bt Si Te Bzv (upd Bkv Bzv.toNatClampNeg ((48 : Int64) + (x3v - x3v / (10 : Int64) * (10 : Int64))).toInt32)) H := hP
              refine lv_aload_n hx hb dX6_sayNumber_62 rfl (lv_at hl 1 rfl) ?_
              refine lv_dup hx hb dX6_sayNumber_63 rfl ?_
              refine va_get (D := (dC, dI)) (ci := 8) (v := .int Bzv) (C := RX6) (T := TX6) (N := 24) hx hb hts iW_X6 hown hK hP 0 rfl rfl 22 (by decide) (hts _ mF_RX6_193) (fun _ h9 => h9) rfl dX6_sayNumber_64 ?_
              refine lv_iconst (v := 1) hx hb dX6_sayNumber_67 (by decide) ?_
              refine lv_iadd hx hb dX6_sayNumber_68 ?_
              refine va_put (D := (dC, dI)) (ci := 8) (v := .int (Bzv + (1 : Int32))) (ty := .int) (C := RX6) (T := TX6) (N := 24) hx hb hts iW_X6 tyX6 tyX6_ok nmX6 hown hK hP (fA_D hi rfl) hS 0 rfl rfl 22 (by decide) (hts _ mF_RX6_193) (fun _ h9 => h9) rfl (by decide +kernel) rfl rfl (Nat.le_of_ble_eq_true rfl) dX6_sayNumber_69 (fun H locs hP _ hS => ?_)
              have hP : va_P (dC, dI) vwCl (wM ad cI cJ Th Ce Le De Ke Kc Ko Kl Kd Ug Ur Va To Tt Td Go Gg Ga Be Bt Si Te (Bzv + (1 : Int32)) (upd Bkv Bzv.toNatClampNeg ((48 : Int64) + (x3v - x3v / (10 : Int64) * (10 : Int64))).toInt32)) H := hP
              refine lv_lload_n hx hb dX6_sayNumber_72 rfl (lv_at hl 0 rfl) ?_
              refine lv_ldc2 hx hb hown (hts _ mK_RX6_147) dX6_sayNumber_73 ?_
              refine lv_ldiv hx hb dX6_sayNumber_76 (by decide) ?_
              refine lv_lstore_n (lv' := [(3, .long (x3v / (10 : Int64))), (0, .ref (ad 0)), (1, .long a0)]) hx hb dX6_sayNumber_77 rfl hl (by decide) rfl (fun ls hl => ?_)
              refine lv_goto (tgt := 30) hx hb dX6_sayNumber_78 (by decide) ?_
              exact ih (x3v / (10 : Int64)) (Bzv + (1 : Int32)) (upd Bkv Bzv.toNatClampNeg ((48 : Int64) + (x3v - x3v / (10 : Int64) * (10 : Int64))).toInt32) _ _ _ hs (by rw [hq17, L_X6_sayNumber_30]; simp only [if_neg c18, if_pos c20, ↓reduceIte]) hP hS (lv_sub hl [0, 1, 2] rfl)
      exact hlp16 21 a0 (0 : Int32) Bk _ _ _ h4 hu3 hP hS (lv_sub hl [0, 1, 2] rfl)
    · have c2 : ¬ (0 : Int64) ≤ a0 := fun z => c2 (lc_ge.mpr z)
      exact absurd c1 c2
  · have c1 : ¬ (0 : Int64) ≤ a0 := fun z => c1 (lc_ge.mpr z)
    have hs := hs.2 c1
    refine lv_aload_n hx hb dX6_sayNumber_6 rfl (lv_at hl 0 rfl) ?_
    refine lv_bipush (v := 45) hx hb dX6_sayNumber_7 (by decide) ?_
    obtain ⟨h23, hs⟩ := hs
    obtain ⟨u24, hu24⟩ : ∃ z, z = f_X6_say (45 : Int32) Si Te := ⟨_, rfl⟩
    have hs := hs u24 hu24
    refine q_X6_say hx hb hml hown hts mM_RX6_189 ⟨Nat.le_of_ble_eq_true rfl, Nat.le_of_ble_eq_true rfl⟩ ⟨Nat.le_of_ble_eq_true rfl, Nat.le_of_ble_eq_true rfl⟩ hl.1 (Nat.le_of_ble_eq_true rfl) hS dX6_sayNumber_9 (fun _ h9 => fA_mono hS.1 h9) hi hK hP (45 : Int32) h23 u24 hu24 (fun H locs hP hS => ?_)
    refine lv_aload_n hx hb dX6_sayNumber_12 rfl (lv_at hl 0 rfl) ?_
    refine lv_iconst (v := 0) hx hb dX6_sayNumber_13 (by decide) ?_
    refine va_put (D := (dC, dI)) (ci := 8) (v := .int (0 : Int32)) (ty := .int) (C := RX6) (T := TX6) (N := 24) hx hb hts iW_X6 tyX6 tyX6_ok nmX6 hown hK hP (fA_D hi rfl) hS 0 rfl rfl 22 (by decide) (hts _ mF_RX6_193) (fun _ h9 => h9) rfl (by decide +kernel) rfl rfl (Nat.le_of_ble_eq_true rfl) dX6_sayNumber_14 (fun H locs hP _ hS => ?_)
    have hP : va_P (dC, dI) vwCl (wM ad cI cJ Th Ce Le De Ke Kc Ko Kl Kd Ug Ur Va To Tt Td Go Gg Ga Be Bt u24.1 u24.2 (0 : Int32) Bk) H := hP
    refine lv_lload_n hx hb dX6_sayNumber_17 rfl (lv_at hl 1 rfl) ?_
    refine lv_lconst (v := 0) hx hb dX6_sayNumber_18 (by decide) ?_
    refine W.lcmp hx hb dX6_sayNumber_19 ?_
    refine lv_if_ge (tgt := 28) hx hb dX6_sayNumber_20 (by decide) (fun c25 => ?_) (fun c25 => ?_)
    · have c25 : (0 : Int64) ≤ a0 := lc_ge.mp c25
      exact absurd c25 c1
    · have c25 : ¬ (0 : Int64) ≤ a0 := fun z => c25 (lc_ge.mpr z)
      refine lv_lload_n hx hb dX6_sayNumber_23 rfl (lv_at hl 1 rfl) ?_
      refine lv_lneg hx hb dX6_sayNumber_24 ?_
      refine lv_goto (tgt := 29) hx hb dX6_sayNumber_25 (by decide) ?_
      refine lv_lstore_n (lv' := [(3, .long (-a0)), (0, .ref (ad 0)), (1, .long a0)]) hx hb dX6_sayNumber_29 rfl hl (by decide) rfl (fun ls hl => ?_)
      obtain ⟨h27, hs⟩ := hs
      obtain ⟨u26, hu26⟩ : ∃ z, z = L_X6_sayNumber_30 21 (-a0) (0 : Int32) Bk := ⟨_, rfl⟩
      have hs := hs u26 hu26
      have hex28 : ∀ (H : Heap) (locs : List Loc) (ls : Array Slot), va_P (dC, dI) vwCl (wM ad cI cJ Th Ce Le De Ke Kc Ko Kl Kd Ug Ur Va To Tt Td Go Gg Ga Be Bt u24.1 u24.2 u26.2.1 u26.2.2) H → va_S (fA 17 ad s.heap.size) s.heap H locs → lv_has ls 5 [(3, .long u26.1), (0, .ref (ad 0)), (1, .long a0)] → W p l e (headSpec (mW yX6_sayNumber cX6_sayNumber 5 none) { frames := 1, cells := 0, slots := 0, locals := 21 }).room s m ([.ref (ad 0), .long a0] : List Value).toArray below meth c H locs 0 0 Q9 (F0 m 81 ls []) := by
        intro H locs ls hP hS hl
        obtain ⟨h30, hs⟩ := hs
        obtain ⟨u29, hu29⟩ : ∃ z, z = L_X6_sayNumber_81 21 u24.1 u24.2 u26.2.1 u26.2.2 := ⟨_, rfl⟩
        have hs := hs u29 hu29
        have hex31 : ∀ (H : Heap) (locs : List Loc) (ls : Array Slot), va_P (dC, dI) vwCl (wM ad cI cJ Th Ce Le De Ke Kc Ko Kl Kd Ug Ur Va To Tt Td Go Gg Ga Be Bt u29.1 u29.2.1 u29.2.2 u26.2.2) H → va_S (fA 17 ad s.heap.size) s.heap H locs → lv_has ls 5 [(3, .long u26.1), (0, .ref (ad 0)), (1, .long a0)] → W p l e (headSpec (mW yX6_sayNumber cX6_sayNumber 5 none) { frames := 1, cells := 0, slots := 0, locals := 21 }).room s m ([.ref (ad 0), .long a0] : List Value).toArray below meth c H locs 0 0 Q9 (F0 m 114 ls []) := by
          intro H locs ls hP hS hl
          rw [hQ9]
          have hf : f_X6_sayNumber a0 Si Te Bz Bk = (u29.1, u29.2.1, u29.2.2, u26.2.2) := by simp only [f_X6_sayNumber, if_neg c1, ← hu24, ← hu26, ← hu29]
          exact W.vret hx hb hr (fun t ht hW => ⟨⟨(), rfl, True.intro, by rw [hf]; show va_P (dC, dI) vwCl _ t.heap; rw [ht]; exact hP⟩, hS.F ht⟩) hS.2.2 dX6_sayNumber_114
        have hlp32 : ∀ (n : Nat) (Siv : Int32) (Tev : Nat → Int32) (Bzv : Int32) (H : Heap) (locs : List Loc) (ls : Array Slot), SL_X6_sayNumber_81 n Siv Tev Bzv u26.2.2 → u29 = L_X6_sayNumber_81 n Siv Tev Bzv u26.2.2 → va_P (dC, dI) vwCl (wM ad cI cJ Th Ce Le De Ke Kc Ko Kl Kd Ug Ur Va To Tt Td Go Gg Ga Be Bt Siv Tev Bzv u26.2.2) H → va_S (fA 17 ad s.heap.size) s.heap H locs → lv_has ls 5 [(3, .long u26.1), (0, .ref (ad 0)), (1, .long a0)] → W p l e (headSpec (mW yX6_sayNumber cX6_sayNumber 5 none) { frames := 1, cells := 0, slots := 0, locals := 21 }).room s m ([.ref (ad 0), .long a0] : List Value).toArray below meth c H locs 0 0 Q9 (F0 m 81 ls []) := by
          intro n
          induction n with
          | zero => intro Siv Tev Bzv H locs ls hs; rw [SL_X6_sayNumber_81] at hs; exact hs.elim
          | succ n ih =>
            intro Siv Tev Bzv H locs ls hs hq33 hP hS hl
            rw [SL_X6_sayNumber_81] at hs
            refine lv_aload_n hx hb dX6_sayNumber_81 rfl (lv_at hl 1 rfl) ?_
            refine va_get (D := (dC, dI)) (ci := 8) (v := .int Bzv) (C := RX6) (T := TX6) (N := 24) hx hb hts iW_X6 hown hK hP 0 rfl rfl 22 (by decide) (hts _ mF_RX6_193) (fun _ h9 => h9) rfl dX6_sayNumber_82 ?_
            refine lv_if_le (tgt := 114) hx hb dX6_sayNumber_85 (by decide) (fun c34 => ?_) (fun c34 => ?_)
            · have hs := hs.1 c34
              have he35 : u29 = (Siv, Tev, Bzv) := by rw [hq33, L_X6_sayNumber_81]; simp only [if_pos c34, ↓reduceIte]
              exact hex31 _ _ _ (by first | exact hP | (rw [he35]; exact hP)) hS (by first | exact lv_sub hl [0, 1, 2] rfl | (rw [he35]; exact lv_sub hl [0, 1, 2] rfl))
            · have hs := hs.2 c34
              refine lv_aload_n hx hb dX6_sayNumber_88 rfl (lv_at hl 1 rfl) ?_
              refine lv_dup hx hb dX6_sayNumber_89 rfl ?_
              refine va_get (D := (dC, dI)) (ci := 8) (v := .int Bzv) (C := RX6) (T := TX6) (N := 24) hx hb hts iW_X6 hown hK hP 0 rfl rfl 22 (by decide) (hts _ mF_RX6_193) (fun _ h9 => h9) rfl dX6_sayNumber_90 ?_
              refine lv_iconst (v := 1) hx hb dX6_sayNumber_93 (by decide) ?_
              refine lv_isub hx hb dX6_sayNumber_94 ?_
              refine va_put (D := (dC, dI)) (ci := 8) (v := .int (Bzv - (1 : Int32))) (ty := .int) (C := RX6) (T := TX6) (N := 24) hx hb hts iW_X6 tyX6 tyX6_ok nmX6 hown hK hP (fA_D hi rfl) hS 0 rfl rfl 22 (by decide) (hts _ mF_RX6_193) (fun _ h9 => h9) rfl (by decide +kernel) rfl rfl (Nat.le_of_ble_eq_true rfl) dX6_sayNumber_95 (fun H locs hP _ hS => ?_)
              have hP : va_P (dC, dI) vwCl (wM ad cI cJ Th Ce Le De Ke Kc Ko Kl Kd Ug Ur Va To Tt Td Go Gg Ga Be Bt Siv Tev (Bzv - (1 : Int32)) u26.2.2) H := hP
              refine lv_aload_n hx hb dX6_sayNumber_98 rfl (lv_at hl 1 rfl) ?_
              refine lv_aload_n hx hb dX6_sayNumber_99 rfl (lv_at hl 1 rfl) ?_
              refine va_get (D := (dC, dI)) (ci := 8) (v := .ref (ad 16)) (C := RX6) (T := TX6) (N := 24) hx hb hts iW_X6 hown hK hP 0 rfl rfl 23 (by decide) (hts _ mF_RX6_56) (fun _ h9 => h9) rfl dX6_sayNumber_100 ?_
              refine lv_aload_n hx hb dX6_sayNumber_103 rfl (lv_at hl 1 rfl) ?_
              refine va_get (D := (dC, dI)) (ci := 8) (v := .int (Bzv - (1 : Int32))) (C := RX6) (T := TX6) (N := 24) hx hb hts iW_X6 hown hK hP 0 rfl rfl 22 (by decide) (hts _ mF_RX6_193) (fun _ h9 => h9) rfl dX6_sayNumber_104 ?_
              obtain ⟨h36, hs⟩ := hs
              refine va_iald hx hb hK hP 16 0 rfl rfl h36 dX6_sayNumber_107 ?_
              obtain ⟨h37, hs⟩ := hs
              obtain ⟨u38, hu38⟩ : ∃ z, z = f_X6_say (u26.2.2 (Bzv - (1 : Int32)).toNatClampNeg) Siv Tev := ⟨_, rfl⟩
              have hs := hs u38 hu38
              refine q_X6_say hx hb hml hown hts mM_RX6_189 ⟨Nat.le_of_ble_eq_true rfl, Nat.le_of_ble_eq_true rfl⟩ ⟨Nat.le_of_ble_eq_true rfl, Nat.le_of_ble_eq_true rfl⟩ hl.1 (Nat.le_of_ble_eq_true rfl) hS dX6_sayNumber_108 (fun _ h9 => fA_mono hS.1 h9) hi hK hP (u26.2.2 (Bzv - (1 : Int32)).toNatClampNeg) h37 u38 hu38 (fun H locs hP hS => ?_)
              refine lv_goto (tgt := 81) hx hb dX6_sayNumber_111 (by decide) ?_
              exact ih u38.1 u38.2 (Bzv - (1 : Int32)) _ _ _ hs (by rw [hq33, L_X6_sayNumber_81]; simp only [if_neg c34, ← hu38, ↓reduceIte]) hP hS (lv_sub hl [0, 1, 2] rfl)
        exact hlp32 21 u24.1 u24.2 u26.2.1 _ _ _ h30 hu29 hP hS (lv_sub hl [0, 1, 2] rfl)
      have hlp39 : ∀ (n : Nat) (x3v : Int64) (Bzv : Int32) (Bkv : Nat → Int32) (H : Heap) (locs : List Loc) (ls : Array Slot), SL_X6_sayNumber_30 n x3v Bzv Bkv → u26 = L_X6_sayNumber_30 n x3v Bzv Bkv → va_P (dC, dI) vwCl (wM ad cI cJ Th Ce Le De Ke Kc Ko Kl Kd Ug Ur Va To Tt Td Go Gg Ga Be Bt u24.1 u24.2 Bzv Bkv) H → va_S (fA 17 ad s.heap.size) s.heap H locs → lv_has ls 5 [(3, .long x3v), (0, .ref (ad 0)), (1, .long a0)] → W p l e (headSpec (mW yX6_sayNumber cX6_sayNumber 5 none) { frames := 1, cells := 0, slots := 0, locals := 21 }).room s m ([.ref (ad 0), .long a0] : List Value).toArray below meth c H locs 0 0 Q9 (F0 m 30 ls []) := by
        intro n
        induction n with
        | zero => intro x3v Bzv Bkv H locs ls hs; rw [SL_X6_sayNumber_30] at hs; exact hs.elim
        | succ n ih =>
          intro x3v Bzv Bkv H locs ls hs hq40 hP hS hl
          rw [SL_X6_sayNumber_30] at hs
          refine lv_lload_n hx hb dX6_sayNumber_30 rfl (lv_at hl 0 rfl) ?_
          refine lv_lconst (v := 0) hx hb dX6_sayNumber_31 (by decide) ?_
          refine W.lcmp hx hb dX6_sayNumber_32 ?_
          refine lv_if_gt (tgt := 43) hx hb dX6_sayNumber_33 (by decide) (fun c41 => ?_) (fun c41 => ?_)
          · have c41 : (0 : Int64) < x3v := lc_gt.mp c41
            have hs := hs.1 c41
            refine lv_aload_n hx hb dX6_sayNumber_43 rfl (lv_at hl 1 rfl) ?_
            refine va_get (D := (dC, dI)) (ci := 8) (v := .ref (ad 16)) (C := RX6) (T := TX6) (N := 24) hx hb hts iW_X6 hown hK hP 0 rfl rfl 23 (by decide) (hts _ mF_RX6_56) (fun _ h9 => h9) rfl dX6_sayNumber_44 ?_
            refine lv_aload_n hx hb dX6_sayNumber_47 rfl (lv_at hl 1 rfl) ?_
            refine va_get (D := (dC, dI)) (ci := 8) (v := .int Bzv) (C := RX6) (T := TX6) (N := 24) hx hb hts iW_X6 hown hK hP 0 rfl rfl 22 (by decide) (hts _ mF_RX6_193) (fun _ h9 => h9) rfl dX6_sayNumber_48 ?_
            refine lv_ldc2 hx hb hown (hts _ mK_RX6_196) dX6_sayNumber_51 ?_
            refine lv_lload_n hx hb dX6_sayNumber_54 rfl (lv_at hl 0 rfl) ?_
            refine lv_ldc2 hx hb hown (hts _ mK_RX6_147) dX6_sayNumber_55 ?_
            refine lv_lrem hx hb dX6_sayNumber_58 (by decide) ?_
            refine lv_ladd hx hb dX6_sayNumber_59 ?_
            refine lv_l2i hx hb dX6_sayNumber_60 rfl ?_
            obtain ⟨h42, hs⟩ := hs
            refine va_iast hx hb hK hP (fA_D hi rfl) hS 16 0 rfl rfl h42 dX6_sayNumber_61 (fun H locs hP _ hS => ?_)
            have hP : va_P (dC, dI) vwCl (wM ad cI cJ Th Ce Le De Ke Kc Ko Kl Kd Ug Ur Va To Tt Td Go Gg Ga Be Bt u24.1 u24.2 Bzv (upd Bkv Bzv.toNatClampNeg ((48 : Int64) + (x3v - x3v / (10 : Int64) * (10 : Int64))).toInt32)) H := hP
            refine lv_aload_n hx hb dX6_sayNumber_62 rfl (lv_at hl 1 rfl) ?_
            refine lv_dup hx hb dX6_sayNumber_63 rfl ?_
            refine va_get (D := (dC, dI)) (ci := 8) (v := .int Bzv) (C := RX6) (T := TX6) (N := 24) hx hb hts iW_X6 hown hK hP 0 rfl rfl 22 (by decide) (hts _ mF_RX6_193) (fun _ h9 => h9) rfl dX6_sayNumber_64 ?_
            refine lv_iconst (v := 1) hx hb dX6_sayNumber_67 (by decide) ?_
            refine lv_iadd hx hb dX6_sayNumber_68 ?_
            refine va_put (D := (dC, dI)) (ci := 8) (v := .int (Bzv + (1 : Int32))) (ty := .int) (C := RX6) (T := TX6) (N := 24) hx hb hts iW_X6 tyX6 tyX6_ok nmX6 hown hK hP (fA_D hi rfl) hS 0 rfl rfl 22 (by decide) (hts _ mF_RX6_193) (fun _ h9 => h9) rfl (by decide +kernel) rfl rfl (Nat.le_of_ble_eq_true rfl) dX6_sayNumber_69 (fun H locs hP _ hS => ?_)
            have hP : va_P (dC, dI) vwCl (wM ad cI cJ Th Ce Le De Ke Kc Ko Kl Kd Ug Ur Va To Tt Td Go Gg Ga Be Bt u24.1 u24.2 (Bzv + (1 : Int32)) (upd Bkv Bzv.toNatClampNeg ((48 : Int64) + (x3v - x3v / (10 : Int64) * (10 : Int64))).toInt32)) H := hP
            refine lv_lload_n hx hb dX6_sayNumber_72 rfl (lv_at hl 0 rfl) ?_
            refine lv_ldc2 hx hb hown (hts _ mK_RX6_147) dX6_sayNumber_73 ?_
            refine lv_ldiv hx hb dX6_sayNumber_76 (by decide) ?_
            refine lv_lstore_n (lv' := [(3, .long (x3v / (10 : Int64))), (0, .ref (ad 0)), (1, .long a0)]) hx hb dX6_sayNumber_77 rfl hl (by decide) rfl (fun ls hl => ?_)
            refine lv_goto (tgt := 30) hx hb dX6_sayNumber_78 (by decide) ?_
            exact ih (x3v / (10 : Int64)) (Bzv + (1 : Int32)) (upd Bkv Bzv.toNatClampNeg ((48 : Int64) + (x3v - x3v / (10 : Int64) * (10 : Int64))).toInt32) _ _ _ hs (by rw [hq40, L_X6_sayNumber_30]; simp only [if_pos c41, ↓reduceIte]) hP hS (lv_sub hl [0, 1, 2] rfl)
          · have c41 : ¬ (0 : Int64) < x3v := fun z => c41 (lc_gt.mpr z)
            have hs := hs.2 c41
            refine lv_aload_n hx hb dX6_sayNumber_36 rfl (lv_at hl 1 rfl) ?_
            refine va_get (D := (dC, dI)) (ci := 8) (v := .int Bzv) (C := RX6) (T := TX6) (N := 24) hx hb hts iW_X6 hown hK hP 0 rfl rfl 22 (by decide) (hts _ mF_RX6_193) (fun _ h9 => h9) rfl dX6_sayNumber_37 ?_
            refine lv_if_ne (tgt := 81) hx hb dX6_sayNumber_40 (by decide) (fun c43 => ?_) (fun c43 => ?_)
            · have hs := hs.2 c43
              have he44 : u26 = (x3v, Bzv, Bkv) := by rw [hq40, L_X6_sayNumber_30]; simp only [if_neg c41, if_neg c43, ↓reduceIte]
              exact hex28 _ _ _ (by first | exact hP | (rw [he44]; exact hP)) hS (by first | exact lv_sub hl [0, 1, 2] rfl | (rw [he44]; exact lv_sub hl [0, 1, 2] rfl))
            · have hs := hs.1 c43
              refine lv_aload_n hx hb dX6_sayNumber_43 rfl (lv_at hl 1 rfl) ?_
              refine va_get (D := (dC, dI)) (ci := 8) (v := .ref (ad 16)) (C := RX6) (T := TX6) (N := 24) hx hb hts iW_X6 hown hK hP 0 rfl rfl 23 (by decide) (hts _ mF_RX6_56) (fun _ h9 => h9) rfl dX6_sayNumber_44 ?_
              refine lv_aload_n hx hb dX6_sayNumber_47 rfl (lv_at hl 1 rfl) ?_
              refine va_get (D := (dC, dI)) (ci := 8) (v := .int Bzv) (C := RX6) (T := TX6) (N := 24) hx hb hts iW_X6 hown hK hP 0 rfl rfl 22 (by decide) (hts _ mF_RX6_193) (fun _ h9 => h9) rfl dX6_sayNumber_48 ?_
              refine lv_ldc2 hx hb hown (hts _ mK_RX6_196) dX6_sayNumber_51 ?_
              refine lv_lload_n hx hb dX6_sayNumber_54 rfl (lv_at hl 0 rfl) ?_
              refine lv_ldc2 hx hb hown (hts _ mK_RX6_147) dX6_sayNumber_55 ?_
              refine lv_lrem hx hb dX6_sayNumber_58 (by decide) ?_
              refine lv_ladd hx hb dX6_sayNumber_59 ?_
              refine lv_l2i hx hb dX6_sayNumber_60 rfl ?_
              obtain ⟨h45, hs⟩ := hs
              refine va_iast hx hb hK hP (fA_D hi rfl) hS 16 0 rfl rfl h45 dX6_sayNumber_61 (fun H locs hP _ hS => ?_)
              have hP : va_P (dC, dI) vwCl (wM ad cI cJ Th Ce Le De Ke Kc Ko Kl Kd Ug Ur Va To Tt Td Go Gg Ga Be Bt u24.1 u24.2 Bzv (upd Bkv Bzv.toNatClampNeg ((48 : Int64) + (x3v - x3v / (10 : Int64) * (10 : Int64))).toInt32)) H := hP
              refine lv_aload_n hx hb dX6_sayNumber_62 rfl (lv_at hl 1 rfl) ?_
              refine lv_dup hx hb dX6_sayNumber_63 rfl ?_
              refine va_get (D := (dC, dI)) (ci := 8) (v := .int Bzv) (C := RX6) (T := TX6) (N := 24) hx hb hts iW_X6 hown hK hP 0 rfl rfl 22 (by decide) (hts _ mF_RX6_193) (fun _ h9 => h9) rfl dX6_sayNumber_64 ?_
              refine lv_iconst (v := 1) hx hb dX6_sayNumber_67 (by decide) ?_
              refine lv_iadd hx hb dX6_sayNumber_68 ?_
              refine va_put (D := (dC, dI)) (ci := 8) (v := .int (Bzv + (1 : Int32))) (ty := .int) (C := RX6) (T := TX6) (N := 24) hx hb hts iW_X6 tyX6 tyX6_ok nmX6 hown hK hP (fA_D hi rfl) hS 0 rfl rfl 22 (by decide) (hts _ mF_RX6_193) (fun _ h9 => h9) rfl (by decide +kernel) rfl rfl (Nat.le_of_ble_eq_true rfl) dX6_sayNumber_69 (fun H locs hP _ hS => ?_)
              have hP : va_P (dC, dI) vwCl (wM ad cI cJ Th Ce Le De Ke Kc Ko Kl Kd Ug Ur Va To Tt Td Go Gg Ga Be Bt u24.1 u24.2 (Bzv + (1 : Int32)) (upd Bkv Bzv.toNatClampNeg ((48 : Int64) + (x3v - x3v / (10 : Int64) * (10 : Int64))).toInt32)) H := hP
              refine lv_lload_n hx hb dX6_sayNumber_72 rfl (lv_at hl 0 rfl) ?_
              refine lv_ldc2 hx hb hown (hts _ mK_RX6_147) dX6_sayNumber_73 ?_
              refine lv_ldiv hx hb dX6_sayNumber_76 (by decide) ?_
              refine lv_lstore_n (lv' := [(3, .long (x3v / (10 : Int64))), (0, .ref (ad 0)), (1, .long a0)]) hx hb dX6_sayNumber_77 rfl hl (by decide) rfl (fun ls hl => ?_)
              refine lv_goto (tgt := 30) hx hb dX6_sayNumber_78 (by decide) ?_
              exact ih (x3v / (10 : Int64)) (Bzv + (1 : Int32)) (upd Bkv Bzv.toNatClampNeg ((48 : Int64) + (x3v - x3v / (10 : Int64) * (10 : Int64))).toInt32) _ _ _ hs (by rw [hq40, L_X6_sayNumber_30]; simp only [if_neg c41, if_pos c43, ↓reduceIte]) hP hS (lv_sub hl [0, 1, 2] rfl)
      exact hlp39 21 (-a0) (0 : Int32) Bk _ _ _ h27 hu26 hP hS (lv_sub hl [0, 1, 2] rfl)
theorem q_X6_sayNumber {p : Program} {l : Launch} {e : Env} {R : Room} {s : State} {m : MethodId} {args : Array Value} {below : List Frame} {meth : Method} {c : Code} {H : Heap} {locs : List Loc} {cells slots : Nat} {Q : State → Prop} {pc : Nat} {ls : Array Slot} {rest : List Value} {cc : ByteArray} {nL idx : Nat} {own : String} {A0 : Nat → Prop} {dC : Nat → ClassId} {dI : Nat → Nat → Nat} {cI cJ : ClassId} {ad : Nat → Nat} {Th : Int32} {Ce : Nat → Int64} {Le : Nat → Int32} {De : Int32} {Ke : Int32} {Kc : Nat → Int64} {Ko : Nat → Int32} {Kl : Nat → Int32} {Kd : Nat → Int32} {Ug : Nat → Int64} {Ur : Nat → Int64} {Va : Nat → Int64} {To : Int32} {Tt : Nat → Int32} {Td : Nat → Int32} {Go : Int32} {Gg : Nat → Int32} {Ga : Nat → Int32} {Be : Int32} {Bt : Nat → Int32} {Si : Int32} {Te : Nat → Int32} {Bz : Int32} {Bk : Nat → Int32} (hx : p.tables.exec = Jvm.exec) (hb : c.code = cc) (hml : c.maxLocals = nL) (hown : s.vm.findClass own = some m.cls) (hts : ∀ w ∈ bigW, w.before args s = true) (hlk : Cond.methodLink own idx yX6_sayNumber ∈ bigW) (hR : 2 ≤ R.frames ∧ 45 ≤ R.locals) (hf : cells + 0 ≤ R.cells ∧ slots + 0 ≤ R.slots) (hz : ls.size = nL) (hw : (rest.map fun v => v.category).sum ≤ 8) (hS : va_S A0 s.heap H locs) (hd : decode cc pc = .ok (.invokevirtual idx, 3)) (hA : ∀ q, fA 17 ad H.size q → A0 q) (hi : fI 17 ad) (hK : va_K (dC, dI) vwCl [(cI, .int), (cJ, .long)] s) (hP : va_P (dC, dI) vwCl (wM ad cI cJ Th Ce Le De Ke Kc Ko Kl Kd Ug Ur Va To Tt Td Go Gg Ga Be Bt Si Te Bz Bk) H) (a0 : Int64) (hs : S_X6_sayNumber a0 Si Te Bz Bk)  (u : Int32 × (Nat → Int32) × Int32 × (Nat → Int32)) (hu : u = f_X6_sayNumber a0 Si Te Bz Bk) (k : ∀ (H1 : Heap) (locs1 : List Loc), va_P (dC, dI) vwCl (wM ad cI cJ Th Ce Le De Ke Kc Ko Kl Kd Ug Ur Va To Tt Td Go Gg Ga Be Bt u.1 u.2.1 u.2.2.1 u.2.2.2) H1 → va_S A0 s.heap H1 locs1 → W p l e R s m args below meth c H1 locs1 (cells + 0) (slots + 0) Q (F0 m (pc + 3) ls (rest))) : W p l e R s m args below meth c H locs cells slots Q (F0 m pc ls (.long a0 :: .ref (ad 0) :: rest)) := by
  subst hu
  exact va_callv (va_runV (As := [.long a0]) (rest := rest) ⟨hx, hb, hml, hown, hts⟩ (c_X6_sayNumber l dC dI cI cJ ad hi H.size Th Ce Le De Ke Kc Ko Kl Kd Ug Ur Va To Tt Td Go Gg Ga Be Bt Si Te Bz Bk a0 hs) (kV 1 hts hlk mI_X6_sayNumber mN_RX6 mY_X6_sayNumber mV_X6_sayNumber rfl rfl (by decide +kernel) hR) ⟨fun a U g mk q => ⟨q.1, q.2.1, q.2.2.1, va_K.moved (u := U) (U := U.calling g mk a) (Vm.Alike.refl U.vm) q.2.2.2⟩, va_recv hK hP (ci := 8) (q0 := 0) rfl rfl, fun U hU hW => ⟨rfl, by rw [hU], by rw [hU]; exact hP, va_K.moved hW.alike hK⟩⟩ rfl rfl hz rfl (lv_room hw) hd hf) hS (fun q _ h => hA q h) (fun q h => hA q h) (fun u t H1 locs1 ht hvm hw9 hB hz1 hk1 hS1 => by
    skip
    exact k H1 locs1 (by rw [← ht]; exact hB) hS1)

def L_X6_sayLength_63 : Nat → Int64 → Int64 → Int32 → Int32 → (Nat → Int32) → Int64 × Int64 × Int32 × Int32 × (Nat → Int32)
  | 0, x5, x7, x9, Si, Te => (x5, x7, x9, Si, Te)
  | n + 1, x5, x7, x9, Si, Te => (if x9 = 0 then (x5, x7, x9, Si, Te) else (if x7 ≤ (65536 : Int64) then (let u10 := f_X6_say (((48 : Int64) + (x5 / (65536 : Int64))).toInt32) Si Te; (if ((10 : Int64) * (x5 - x5 / (65536 : Int64) * (65536 : Int64))) ≤ ((10 : Int64) * x7) then L_X6_sayLength_63 n ((10 : Int64) * (x5 - x5 / (65536 : Int64) * (65536 : Int64))) ((10 : Int64) * x7) (0 : Int32) u10.1 u10.2 else L_X6_sayLength_63 n ((10 : Int64) * (x5 - x5 / (65536 : Int64) * (65536 : Int64))) ((10 : Int64) * x7) (1 : Int32) u10.1 u10.2)) else (let u13 := f_X6_say (((48 : Int64) + ((x5 - (17232 : Int64)) / (65536 : Int64))).toInt32) Si Te; (if ((10 : Int64) * ((x5 - (17232 : Int64)) - (x5 - (17232 : Int64)) / (65536 : Int64) * (65536 : Int64))) ≤ ((10 : Int64) * x7) then L_X6_sayLength_63 n ((10 : Int64) * ((x5 - (17232 : Int64)) - (x5 - (17232 : Int64)) / (65536 : Int64) * (65536 : Int64))) ((10 : Int64) * x7) (0 : Int32) u13.1 u13.2 else L_X6_sayLength_63 n ((10 : Int64) * ((x5 - (17232 : Int64)) - (x5 - (17232 : Int64)) / (65536 : Int64) * (65536 : Int64))) ((10 : Int64) * x7) (1 : Int32) u13.1 u13.2))))
def SL_X6_sayLength_63 : Nat → Int64 → Int64 → Int32 → Int32 → (Nat → Int32) → Prop
  | 0, _, _, _, _, _ => False
  | n + 1, x5, x7, x9, Si, Te => (x9 = 0 → (True)) ∧ (¬ x9 = 0 → ((x7 ≤ (65536 : Int64) → ((S_X6_say (((48 : Int64) + (x5 / (65536 : Int64))).toInt32) Si Te) ∧ (∀ u10, u10 = f_X6_say (((48 : Int64) + (x5 / (65536 : Int64))).toInt32) Si Te → ((((10 : Int64) * (x5 - x5 / (65536 : Int64) * (65536 : Int64))) ≤ ((10 : Int64) * x7) → (SL_X6_sayLength_63 n ((10 : Int64) * (x5 - x5 / (65536 : Int64) * (65536 : Int64))) ((10 : Int64) * x7) (0 : Int32) u10.1 u10.2)) ∧ (¬ ((10 : Int64) * (x5 - x5 / (65536 : Int64) * (65536 : Int64))) ≤ ((10 : Int64) * x7) → (SL_X6_sayLength_63 n ((10 : Int64) * (x5 - x5 / (65536 : Int64) * (65536 : Int64))) ((10 : Int64) * x7) (1 : Int32) u10.1 u10.2)))))) ∧ (¬ x7 ≤ (65536 : Int64) → ((S_X6_say (((48 : Int64) + ((x5 - (17232 : Int64)) / (65536 : Int64))).toInt32) Si Te) ∧ (∀ u13, u13 = f_X6_say (((48 : Int64) + ((x5 - (17232 : Int64)) / (65536 : Int64))).toInt32) Si Te → ((((10 : Int64) * ((x5 - (17232 : Int64)) - (x5 - (17232 : Int64)) / (65536 : Int64) * (65536 : Int64))) ≤ ((10 : Int64) * x7) → (SL_X6_sayLength_63 n ((10 : Int64) * ((x5 - (17232 : Int64)) - (x5 - (17232 : Int64)) / (65536 : Int64) * (65536 : Int64))) ((10 : Int64) * x7) (0 : Int32) u13.1 u13.2)) ∧ (¬ ((10 : Int64) * ((x5 - (17232 : Int64)) - (x5 - (17232 : Int64)) / (65536 : Int64) * (65536 : Int64))) ≤ ((10 : Int64) * x7) → (SL_X6_sayLength_63 n ((10 : Int64) * ((x5 - (17232 : Int64)) - (x5 - (17232 : Int64)) / (65536 : Int64) * (65536 : Int64))) ((10 : Int64) * x7) (1 : Int32) u13.1 u13.2))))))))
def f_X6_sayLength (a0 : Int64) (Si : Int32) (Te : Nat → Int32) (Bz : Int32) (Bk : Nat → Int32) : Int32 × (Nat → Int32) × Int32 × (Nat → Int32) := (if (0 : Int64) ≤ a0 then (let u4 := f_X6_sayNumber (a0 / (65536 : Int64)) Si Te Bz Bk; (let u6 := f_X6_say (46 : Int32) u4.1 u4.2.1; (let u7 := L_X6_sayLength_63 10 (((10 : Int64) * (a0 - a0 / (65536 : Int64) * (65536 : Int64))) + (5 : Int64)) (10 : Int64) (1 : Int32) u6.1 u6.2; (u7.2.2.2.1, u7.2.2.2.2, u4.2.2.1, u4.2.2.2)))) else (let u22 := f_X6_say (45 : Int32) Si Te; (let u25 := f_X6_sayNumber ((-a0) / (65536 : Int64)) u22.1 u22.2 Bz Bk; (let u27 := f_X6_say (46 : Int32) u25.1 u25.2.1; (let u28 := L_X6_sayLength_63 10 (((10 : Int64) * ((-a0) - (-a0) / (65536 : Int64) * (65536 : Int64))) + (5 : Int64)) (10 : Int64) (1 : Int32) u27.1 u27.2; (u28.2.2.2.1, u28.2.2.2.2, u25.2.2.1, u25.2.2.2))))))
def S_X6_sayLength (a0 : Int64) (Si : Int32) (Te : Nat → Int32) (Bz : Int32) (Bk : Nat → Int32) : Prop := ((0 : Int64) ≤ a0 → ((S_X6_sayNumber (a0 / (65536 : Int64)) Si Te Bz Bk) ∧ (∀ u4, u4 = f_X6_sayNumber (a0 / (65536 : Int64)) Si Te Bz Bk → ((S_X6_say (46 : Int32) u4.1 u4.2.1) ∧ (∀ u6, u6 = f_X6_say (46 : Int32) u4.1 u4.2.1 → ((SL_X6_sayLength_63 10 (((10 : Int64) * (a0 - a0 / (65536 : Int64) * (65536 : Int64))) + (5 : Int64)) (10 : Int64) (1 : Int32) u6.1 u6.2) ∧ (∀ u7, u7 = L_X6_sayLength_63 10 (((10 : Int64) * (a0 - a0 / (65536 : Int64) * (65536 : Int64))) + (5 : Int64)) (10 : Int64) (1 : Int32) u6.1 u6.2 → (True)))))))) ∧ (¬ (0 : Int64) ≤ a0 → ((S_X6_say (45 : Int32) Si Te) ∧ (∀ u22, u22 = f_X6_say (45 : Int32) Si Te → ((S_X6_sayNumber ((-a0) / (65536 : Int64)) u22.1 u22.2 Bz Bk) ∧ (∀ u25, u25 = f_X6_sayNumber ((-a0) / (65536 : Int64)) u22.1 u22.2 Bz Bk → ((S_X6_say (46 : Int32) u25.1 u25.2.1) ∧ (∀ u27, u27 = f_X6_say (46 : Int32) u25.1 u25.2.1 → ((SL_X6_sayLength_63 10 (((10 : Int64) * ((-a0) - (-a0) / (65536 : Int64) * (65536 : Int64))) + (5 : Int64)) (10 : Int64) (1 : Int32) u27.1 u27.2) ∧ (∀ u28, u28 = L_X6_sayLength_63 10 (((10 : Int64) * ((-a0) - (-a0) / (65536 : Int64) * (65536 : Int64))) + (5 : Int64)) (10 : Int64) (1 : Int32) u27.1 u27.2 → (True))))))))))
set_option maxHeartbeats 4000000 in
set_option maxRecDepth 100000 in
theorem c_X6_sayLength (l : Launch) (dC : Nat → ClassId) (dI : Nat → Nat → Nat) (cI cJ : ClassId) (ad : Nat → Nat) (hi : fI 17 ad) (sz : Nat) (Th : Int32) (Ce : Nat → Int64) (Le : Nat → Int32) (De : Int32) (Ke : Int32) (Kc : Nat → Int64) (Ko : Nat → Int32) (Kl : Nat → Int32) (Kd : Nat → Int32) (Ug : Nat → Int64) (Ur : Nat → Int64) (Va : Nat → Int64) (To : Int32) (Tt : Nat → Int32) (Td : Nat → Int32) (Go : Int32) (Gg : Nat → Int32) (Ga : Nat → Int32) (Be : Int32) (Bt : Nat → Int32) (Si : Int32) (Te : Nat → Int32) (Bz : Int32) (Bk : Nat → Int32) (a0 : Int64) (hs : S_X6_sayLength a0 Si Te Bz Bk) : Met l yX6_sayLength (mW yX6_sayLength cX6_sayLength 10 none) { frames := 2, cells := 0, slots := 0, locals := 45 } (va_Pc [.ref (ad 0), .long a0] (fun U => U.heap.size = sz ∧ va_P (dC, dI) vwCl (wM ad cI cJ Th Ce Le De Ke Kc Ko Kl Kd Ug Ur Va To Tt Td Go Gg Ga Be Bt Si Te Bz Bk) U.heap ∧ va_K (dC, dI) vwCl [(cI, .int), (cJ, .long)] U)) (va_Qv (fun (_ : Unit) => True) (fun _ t => va_P (dC, dI) vwCl (wM ad cI cJ Th Ce Le De Ke Kc Ko Kl Kd Ug Ur Va To Tt Td Go Gg Ga Be Bt ((f_X6_sayLength a0 Si Te Bz Bk).1) ((f_X6_sayLength a0 Si Te Bz Bk).2.1) ((f_X6_sayLength a0 Si Te Bz Bk).2.2.1) ((f_X6_sayLength a0 Si Te Bz Bk).2.2.2)) t.heap) (fA 17 ad sz)) 0 0 (fA 17 ad sz) := by
  refine Met.ofW (cc := cX6_sayLength) (maxL := 10) (ret := none) (by decide) rfl ?_
  intro p e s m args below meth c s₁ B hml hv
  obtain ⟨rfl, hsz, hP, hK⟩ := hv
  have hx := B.exec
  have hb := B.bytes
  have hr := B.returns
  have hts := mW_hts (atoms_spec (ws := (mW yX6_sayLength cX6_sayLength 10 none)) B.pre)
  have hown : s.vm.findClass RX6 = some m.cls := findClass_of_methodNamed B.named
  have hlocks := B.notSynchronized
  subst hsz
  have hA : ∀ (n : Nat) (q : Nat), s.heap.size ≤ n → n ≤ q → fA 17 ad s.heap.size q := fun n q h1 h2 => Or.inr (Nat.le_trans h1 h2)
  have hS : va_S (fA 17 ad s.heap.size) s.heap s.heap [] := va_S.rf
  have hA : ∀ q, s.heap.size ≤ q → (fA 17 ad s.heap.size) q := fun q h => Or.inr h
  unfold S_X6_sayLength at hs
  have hl := lv_entry ([.ref (ad 0), .long a0]) (n := 10) (Nat.le_of_ble_eq_true rfl)
  rw [lg_entry_eq]
  generalize (lg_sl ([.ref (ad 0), .long a0]) ++ List.replicate (10 - (lg_sl ([.ref (ad 0), .long a0])).length) Slot.unset).toArray = ls at hl ⊢
  have hl : lv_has ls 10 [(0, .ref (ad 0)), (1, .long a0)] := hl
  refine W_gen (fun Q9 hQ9 => ?_)
  refine lv_lload_n hx hb dX6_sayLength_0 rfl (lv_at hl 1 rfl) ?_
  refine lv_lconst (v := 0) hx hb dX6_sayLength_1 (by decide) ?_
  refine W.lcmp hx hb dX6_sayLength_2 ?_
  refine lv_if_ge (tgt := 12) hx hb dX6_sayLength_3 (by decide) (fun c1 => ?_) (fun c1 => ?_)
  · have c1 : (0 : Int64) ≤ a0 := lc_ge.mp c1
    have hs := hs.1 c1
    refine lv_lload_n hx hb dX6_sayLength_12 rfl (lv_at hl 1 rfl) ?_
    refine lv_lconst (v := 0) hx hb dX6_sayLength_13 (by decide) ?_
    refine W.lcmp hx hb dX6_sayLength_14 ?_
    refine lv_if_ge (tgt := 23) hx hb dX6_sayLength_15 (by decide) (fun c2 => ?_) (fun c2 => ?_)
    · have c2 : (0 : Int64) ≤ a0 := lc_ge.mp c2
      refine lv_lload_n hx hb dX6_sayLength_23 rfl (lv_at hl 1 rfl) ?_
      refine lv_lstore_n (lv' := [(3, .long a0), (0, .ref (ad 0)), (1, .long a0)]) hx hb dX6_sayLength_24 rfl hl (by decide) rfl (fun ls hl => ?_)
      refine lv_aload_n hx hb dX6_sayLength_25 rfl (lv_at hl 1 rfl) ?_
      refine lv_lload_n hx hb dX6_sayLength_26 rfl (lv_at hl 0 rfl) ?_
      refine lv_ldc2 hx hb hown (hts _ mK_RX6_177) dX6_sayLength_27 ?_
      refine lv_ldiv hx hb dX6_sayLength_30 (by decide) ?_
      obtain ⟨h3, hs⟩ := hs
      obtain ⟨u4, hu4⟩ : ∃ z, z = f_X6_sayNumber (a0 / (65536 : Int64)) Si Te Bz Bk := ⟨_, rfl⟩
      have hs := hs u4 hu4
      refine q_X6_sayNumber hx hb hml hown hts mM_RX6_198 ⟨Nat.le_of_ble_eq_true rfl, Nat.le_of_ble_eq_true rfl⟩ ⟨Nat.le_of_ble_eq_true rfl, Nat.le_of_ble_eq_true rfl⟩ hl.1 (Nat.le_of_ble_eq_true rfl) hS dX6_sayLength_31 (fun _ h9 => fA_mono hS.1 h9) hi hK hP (a0 / (65536 : Int64)) h3 u4 hu4 (fun H locs hP hS => ?_)
      refine lv_aload_n hx hb dX6_sayLength_34 rfl (lv_at hl 1 rfl) ?_
      refine lv_bipush (v := 46) hx hb dX6_sayLength_35 (by decide) ?_
      obtain ⟨h5, hs⟩ := hs
      obtain ⟨u6, hu6⟩ : ∃ z, z = f_X6_say (46 : Int32) u4.1 u4.2.1 := ⟨_, rfl⟩
      have hs := hs u6 hu6
      refine q_X6_say hx hb hml hown hts mM_RX6_189 ⟨Nat.le_of_ble_eq_true rfl, Nat.le_of_ble_eq_true rfl⟩ ⟨Nat.le_of_ble_eq_true rfl, Nat.le_of_ble_eq_true rfl⟩ hl.1 (Nat.le_of_ble_eq_true rfl) hS dX6_sayLength_37 (fun _ h9 => fA_mono hS.1 h9) hi hK hP (46 : Int32) h5 u6 hu6 (fun H locs hP hS => ?_)
      refine lv_ldc2 hx hb hown (hts _ mK_RX6_147) dX6_sayLength_40 ?_
      refine lv_lload_n hx hb dX6_sayLength_43 rfl (lv_at hl 0 rfl) ?_
      refine lv_ldc2 hx hb hown (hts _ mK_RX6_177) dX6_sayLength_44 ?_
      refine lv_lrem hx hb dX6_sayLength_47 (by decide) ?_
      refine lv_lmul hx hb dX6_sayLength_48 ?_
      refine lv_ldc2 hx hb hown (hts _ mK_RX6_202) dX6_sayLength_49 ?_
      refine lv_ladd hx hb dX6_sayLength_52 ?_
      refine lv_lstore (lv' := [(5, .long (((10 : Int64) * (a0 - a0 / (65536 : Int64) * (65536 : Int64))) + (5 : Int64))), (3, .long a0), (0, .ref (ad 0)), (1, .long a0)]) hx hb dX6_sayLength_53 hl (by decide) rfl (fun ls hl => ?_)
      refine lv_ldc2 hx hb hown (hts _ mK_RX6_147) dX6_sayLength_55 ?_
      refine lv_lstore (lv' := [(7, .long (10 : Int64)), (5, .long (((10 : Int64) * (a0 - a0 / (65536 : Int64) * (65536 : Int64))) + (5 : Int64))), (3, .long a0), (0, .ref (ad 0)), (1, .long a0)]) hx hb dX6_sayLength_58 hl (by decide) rfl (fun ls hl => ?_)
      refine lv_iconst (v := 1) hx hb dX6_sayLength_60 (by decide) ?_
      refine lv_istore (lv' := [(9, .int (1 : Int32)), (7, .long (10 : Int64)), (5, .long (((10 : Int64) * (a0 - a0 / (65536 : Int64) * (65536 : Int64))) + (5 : Int64))), (3, .long a0), (0, .ref (ad 0)), (1, .long a0)]) hx hb dX6_sayLength_61 hl (by decide) rfl (fun ls hl => ?_)
      obtain ⟨h8, hs⟩ := hs
      obtain ⟨u7, hu7⟩ : ∃ z, z = L_X6_sayLength_63 10 (((10 : Int64) * (a0 - a0 / (65536 : Int64) * (65536 : Int64))) + (5 : Int64)) (10 : Int64) (1 : Int32) u6.1 u6.2 := ⟨_, rfl⟩
      have hs := hs u7 hu7
      have hex9 : ∀ (H : Heap) (locs : List Loc) (ls : Array Slot), va_P (dC, dI) vwCl (wM ad cI cJ Th Ce Le De Ke Kc Ko Kl Kd Ug Ur Va To Tt Td Go Gg Ga Be Bt u7.2.2.2.1 u7.2.2.2.2 u4.2.2.1 u4.2.2.2) H → va_S (fA 17 ad s.heap.size) s.heap H locs → lv_has ls 10 [(5, .long u7.1), (7, .long u7.2.1), (9, .int u7.2.2.1), (3, .long a0), (0, .ref (ad 0)), (1, .long a0)] → W p l e (headSpec (mW yX6_sayLength cX6_sayLength 10 none) { frames := 2, cells := 0, slots := 0, locals := 45 }).room s m ([.ref (ad 0), .long a0] : List Value).toArray below meth c H locs 0 0 Q9 (F0 m 143 ls []) := by
        intro H locs ls hP hS hl
        rw [hQ9]
        have hf : f_X6_sayLength a0 Si Te Bz Bk = (u7.2.2.2.1, u7.2.2.2.2, u4.2.2.1, u4.2.2.2) := by simp only [f_X6_sayLength, if_pos c1, ← hu4, ← hu6, ← hu7]
        exact W.vret hx hb hr (fun t ht hW => ⟨⟨(), rfl, True.intro, by rw [hf]; show va_P (dC, dI) vwCl _ t.heap; rw [ht]; exact hP⟩, hS.F ht⟩) hS.2.2 dX6_sayLength_143
      have hlp10 : ∀ (n : Nat) (x5v : Int64) (x7v : Int64) (x9v : Int32) (Siv : Int32) (Tev : Nat → Int32) (H : Heap) (locs : List Loc) (ls : Array Slot), SL_X6_sayLength_63 n x5v x7v x9v Siv Tev → u7 = L_X6_sayLength_63 n x5v x7v x9v Siv Tev → va_P (dC, dI) vwCl (wM ad cI cJ Th Ce Le De Ke Kc Ko Kl Kd Ug Ur Va To Tt Td Go Gg Ga Be Bt Siv Tev u4.2.2.1 u4.2.2.2) H → va_S (fA 17 ad s.heap.size) s.heap H locs → lv_has ls 10 [(5, .long x5v), (7, .long x7v), (9, .int x9v), (3, .long a0), (0, .ref (ad 0)), (1, .long a0)] → W p l e (headSpec (mW yX6_sayLength cX6_sayLength 10 none) { frames := 2, cells := 0, slots := 0, locals := 45 }).room s m ([.ref (ad 0), .long a0] : List Value).toArray below meth c H locs 0 0 Q9 (F0 m 63 ls []) := by
        intro n
        induction n with
        | zero => intro x5v x7v x9v Siv Tev H locs ls hs; rw [SL_X6_sayLength_63] at hs; exact hs.elim
        | succ n ih =>
          intro x5v x7v x9v Siv Tev H locs ls hs hq11 hP hS hl
          rw [SL_X6_sayLength_63] at hs
          refine lv_iload hx hb dX6_sayLength_63 (lv_at hl 2 rfl) ?_
          refine lv_if_eq (tgt := 143) hx hb dX6_sayLength_65 (by decide) (fun c12 => ?_) (fun c12 => ?_)
          · have hs := hs.1 c12
            have he13 : u7 = (x5v, x7v, x9v, Siv, Tev) := by rw [hq11, L_X6_sayLength_63]; simp only [if_pos c12, ↓reduceIte]
            exact hex9 _ _ _ (by first | exact hP | (rw [he13]; exact hP)) hS (by first | exact lv_sub hl [0, 1, 2, 3, 4, 5] rfl | (rw [he13]; exact lv_sub hl [0, 1, 2, 3, 4, 5] rfl))
          · have hs := hs.2 c12
            refine lv_lload hx hb dX6_sayLength_68 (lv_at hl 1 rfl) ?_
            refine lv_ldc2 hx hb hown (hts _ mK_RX6_177) dX6_sayLength_70 ?_
            refine W.lcmp hx hb dX6_sayLength_73 ?_
            refine lv_if_le (tgt := 86) hx hb dX6_sayLength_74 (by decide) (fun c14 => ?_) (fun c14 => ?_)
            · have c14 : x7v ≤ (65536 : Int64) := lc_le.mp c14
              have hs := hs.1 c14
              refine lv_lload hx hb dX6_sayLength_86 (lv_at hl 0 rfl) ?_
              refine lv_lstore (lv' := [(5, .long x5v), (7, .long x7v), (9, .int x9v), (3, .long a0), (0, .ref (ad 0)), (1, .long a0)]) hx hb dX6_sayLength_88 hl (by decide) rfl (fun ls hl => ?_)
              refine lv_aload_n hx hb dX6_sayLength_90 rfl (lv_at hl 4 rfl) ?_
              refine lv_ldc2 hx hb hown (hts _ mK_RX6_196) dX6_sayLength_91 ?_
              refine lv_lload hx hb dX6_sayLength_94 (lv_at hl 0 rfl) ?_
              refine lv_ldc2 hx hb hown (hts _ mK_RX6_177) dX6_sayLength_96 ?_
              refine lv_ldiv hx hb dX6_sayLength_99 (by decide) ?_
              refine lv_ladd hx hb dX6_sayLength_100 ?_
              refine lv_l2i hx hb dX6_sayLength_101 rfl ?_
              obtain ⟨h15, hs⟩ := hs
              obtain ⟨u16, hu16⟩ : ∃ z, z = f_X6_say (((48 : Int64) + (x5v / (65536 : Int64))).toInt32) Siv Tev := ⟨_, rfl⟩
              have hs := hs u16 hu16
              refine q_X6_say hx hb hml hown hts mM_RX6_189 ⟨Nat.le_of_ble_eq_true rfl, Nat.le_of_ble_eq_true rfl⟩ ⟨Nat.le_of_ble_eq_true rfl, Nat.le_of_ble_eq_true rfl⟩ hl.1 (Nat.le_of_ble_eq_true rfl) hS dX6_sayLength_102 (fun _ h9 => fA_mono hS.1 h9) hi hK hP (((48 : Int64) + (x5v / (65536 : Int64))).toInt32) h15 u16 hu16 (fun H locs hP hS => ?_)
              refine lv_ldc2 hx hb hown (hts _ mK_RX6_147) dX6_sayLength_105 ?_
              refine lv_lload hx hb dX6_sayLength_108 (lv_at hl 0 rfl) ?_
              refine lv_ldc2 hx hb hown (hts _ mK_RX6_177) dX6_sayLength_110 ?_
              refine lv_lrem hx hb dX6_sayLength_113 (by decide) ?_
              refine lv_lmul hx hb dX6_sayLength_114 ?_
              refine lv_lstore (lv' := [(5, .long ((10 : Int64) * (x5v - x5v / (65536 : Int64) * (65536 : Int64)))), (7, .long x7v), (9, .int x9v), (3, .long a0), (0, .ref (ad 0)), (1, .long a0)]) hx hb dX6_sayLength_115 hl (by decide) rfl (fun ls hl => ?_)
              refine lv_ldc2 hx hb hown (hts _ mK_RX6_147) dX6_sayLength_117 ?_
              refine lv_lload hx hb dX6_sayLength_120 (lv_at hl 1 rfl) ?_
              refine lv_lmul hx hb dX6_sayLength_122 ?_
              refine lv_lstore (lv' := [(7, .long ((10 : Int64) * x7v)), (5, .long ((10 : Int64) * (x5v - x5v / (65536 : Int64) * (65536 : Int64)))), (9, .int x9v), (3, .long a0), (0, .ref (ad 0)), (1, .long a0)]) hx hb dX6_sayLength_123 hl (by decide) rfl (fun ls hl => ?_)
              refine lv_lload hx hb dX6_sayLength_125 (lv_at hl 1 rfl) ?_
              refine lv_lload hx hb dX6_sayLength_127 (lv_at hl 0 rfl) ?_
              refine W.lcmp hx hb dX6_sayLength_129 ?_
              refine lv_if_le (tgt := 137) hx hb dX6_sayLength_130 (by decide) (fun c17 => ?_) (fun c17 => ?_)
              · have c17 : ((10 : Int64) * (x5v - x5v / (65536 : Int64) * (65536 : Int64))) ≤ ((10 : Int64) * x7v) := lc_le.mp c17
                have hs := hs.1 c17
                refine lv_iconst (v := 0) hx hb dX6_sayLength_137 (by decide) ?_
                refine lv_istore (lv' := [(9, .int (0 : Int32)), (7, .long ((10 : Int64) * x7v)), (5, .long ((10 : Int64) * (x5v - x5v / (65536 : Int64) * (65536 : Int64)))), (3, .long a0), (0, .ref (ad 0)), (1, .long a0)]) hx hb dX6_sayLength_138 hl (by decide) rfl (fun ls hl => ?_)
                refine lv_goto (tgt := 63) hx hb dX6_sayLength_140 (by decide) ?_
                exact ih ((10 : Int64) * (x5v - x5v / (65536 : Int64) * (65536 : Int64))) ((10 : Int64) * x7v) (0 : Int32) u16.1 u16.2 _ _ _ hs (by rw [hq11, L_X6_sayLength_63]; simp only [if_neg c12, if_pos c14, ← hu16, if_pos c17, ↓reduceIte]) hP hS (lv_sub hl [2, 1, 0, 3, 4, 5] rfl)
              · have c17 : ¬ ((10 : Int64) * (x5v - x5v / (65536 : Int64) * (65536 : Int64))) ≤ ((10 : Int64) * x7v) := fun z => c17 (lc_le.mpr z)
                have hs := hs.2 c17
                refine lv_iconst (v := 1) hx hb dX6_sayLength_133 (by decide) ?_
                refine lv_goto (tgt := 138) hx hb dX6_sayLength_134 (by decide) ?_
                refine lv_istore (lv' := [(9, .int (1 : Int32)), (7, .long ((10 : Int64) * x7v)), (5, .long ((10 : Int64) * (x5v - x5v / (65536 : Int64) * (65536 : Int64)))), (3, .long a0), (0, .ref (ad 0)), (1, .long a0)]) hx hb dX6_sayLength_138 hl (by decide) rfl (fun ls hl => ?_)
                refine lv_goto (tgt := 63) hx hb dX6_sayLength_140 (by decide) ?_
                exact ih ((10 : Int64) * (x5v - x5v / (65536 : Int64) * (65536 : Int64))) ((10 : Int64) * x7v) (1 : Int32) u16.1 u16.2 _ _ _ hs (by rw [hq11, L_X6_sayLength_63]; simp only [if_neg c12, if_pos c14, ← hu16, if_neg c17, ↓reduceIte]) hP hS (lv_sub hl [2, 1, 0, 3, 4, 5] rfl)
            · have c14 : ¬ x7v ≤ (65536 : Int64) := fun z => c14 (lc_le.mpr z)
              have hs := hs.2 c14
              refine lv_lload hx hb dX6_sayLength_77 (lv_at hl 0 rfl) ?_
              refine lv_ldc2 hx hb hown (hts _ mK_RX6_204) dX6_sayLength_79 ?_
              refine lv_lsub hx hb dX6_sayLength_82 ?_
              refine lv_goto (tgt := 88) hx hb dX6_sayLength_83 (by decide) ?_
              refine lv_lstore (lv' := [(5, .long (x5v - (17232 : Int64))), (7, .long x7v), (9, .int x9v), (3, .long a0), (0, .ref (ad 0)), (1, .long a0)]) hx hb dX6_sayLength_88 hl (by decide) rfl (fun ls hl => ?_)
              refine lv_aload_n hx hb dX6_sayLength_90 rfl (lv_at hl 4 rfl) ?_
              refine lv_ldc2 hx hb hown (hts _ mK_RX6_196) dX6_sayLength_91 ?_
              refine lv_lload hx hb dX6_sayLength_94 (lv_at hl 0 rfl) ?_
              refine lv_ldc2 hx hb hown (hts _ mK_RX6_177) dX6_sayLength_96 ?_
              refine lv_ldiv hx hb dX6_sayLength_99 (by decide) ?_
              refine lv_ladd hx hb dX6_sayLength_100 ?_
              refine lv_l2i hx hb dX6_sayLength_101 rfl ?_
              obtain ⟨h18, hs⟩ := hs
              obtain ⟨u19, hu19⟩ : ∃ z, z = f_X6_say (((48 : Int64) + ((x5v - (17232 : Int64)) / (65536 : Int64))).toInt32) Siv Tev := ⟨_, rfl⟩
              have hs := hs u19 hu19
              refine q_X6_say hx hb hml hown hts mM_RX6_189 ⟨Nat.le_of_ble_eq_true rfl, Nat.le_of_ble_eq_true rfl⟩ ⟨Nat.le_of_ble_eq_true rfl, Nat.le_of_ble_eq_true rfl⟩ hl.1 (Nat.le_of_ble_eq_true rfl) hS dX6_sayLength_102 (fun _ h9 => fA_mono hS.1 h9) hi hK hP (((48 : Int64) + ((x5v - (17232 : Int64)) / (65536 : Int64))).toInt32) h18 u19 hu19 (fun H locs hP hS => ?_)
              refine lv_ldc2 hx hb hown (hts _ mK_RX6_147) dX6_sayLength_105 ?_
              refine lv_lload hx hb dX6_sayLength_108 (lv_at hl 0 rfl) ?_
              refine lv_ldc2 hx hb hown (hts _ mK_RX6_177) dX6_sayLength_110 ?_
              refine lv_lrem hx hb dX6_sayLength_113 (by decide) ?_
              refine lv_lmul hx hb dX6_sayLength_114 ?_
              refine lv_lstore (lv' := [(5, .long ((10 : Int64) * ((x5v - (17232 : Int64)) - (x5v - (17232 : Int64)) / (65536 : Int64) * (65536 : Int64)))), (7, .long x7v), (9, .int x9v), (3, .long a0), (0, .ref (ad 0)), (1, .long a0)]) hx hb dX6_sayLength_115 hl (by decide) rfl (fun ls hl => ?_)
              refine lv_ldc2 hx hb hown (hts _ mK_RX6_147) dX6_sayLength_117 ?_
              refine lv_lload hx hb dX6_sayLength_120 (lv_at hl 1 rfl) ?_
              refine lv_lmul hx hb dX6_sayLength_122 ?_
              refine lv_lstore (lv' := [(7, .long ((10 : Int64) * x7v)), (5, .long ((10 : Int64) * ((x5v - (17232 : Int64)) - (x5v - (17232 : Int64)) / (65536 : Int64) * (65536 : Int64)))), (9, .int x9v), (3, .long a0), (0, .ref (ad 0)), (1, .long a0)]) hx hb dX6_sayLength_123 hl (by decide) rfl (fun ls hl => ?_)
              refine lv_lload hx hb dX6_sayLength_125 (lv_at hl 1 rfl) ?_
              refine lv_lload hx hb dX6_sayLength_127 (lv_at hl 0 rfl) ?_
              refine W.lcmp hx hb dX6_sayLength_129 ?_
              refine lv_if_le (tgt := 137) hx hb dX6_sayLength_130 (by decide) (fun c20 => ?_) (fun c20 => ?_)
              · have c20 : ((10 : Int64) * ((x5v - (17232 : Int64)) - (x5v - (17232 : Int64)) / (65536 : Int64) * (65536 : Int64))) ≤ ((10 : Int64) * x7v) := lc_le.mp c20
                have hs := hs.1 c20
                refine lv_iconst (v := 0) hx hb dX6_sayLength_137 (by decide) ?_
                refine lv_istore (lv' := [(9, .int (0 : Int32)), (7, .long ((10 : Int64) * x7v)), (5, .long ((10 : Int64) * ((x5v - (17232 : Int64)) - (x5v - (17232 : Int64)) / (65536 : Int64) * (65536 : Int64)))), (3, .long a0), (0, .ref (ad 0)), (1, .long a0)]) hx hb dX6_sayLength_138 hl (by decide) rfl (fun ls hl => ?_)
                refine lv_goto (tgt := 63) hx hb dX6_sayLength_140 (by decide) ?_
                exact ih ((10 : Int64) * ((x5v - (17232 : Int64)) - (x5v - (17232 : Int64)) / (65536 : Int64) * (65536 : Int64))) ((10 : Int64) * x7v) (0 : Int32) u19.1 u19.2 _ _ _ hs (by rw [hq11, L_X6_sayLength_63]; simp only [if_neg c12, if_neg c14, ← hu19, if_pos c20, ↓reduceIte]) hP hS (lv_sub hl [2, 1, 0, 3, 4, 5] rfl)
              · have c20 : ¬ ((10 : Int64) * ((x5v - (17232 : Int64)) - (x5v - (17232 : Int64)) / (65536 : Int64) * (65536 : Int64))) ≤ ((10 : Int64) * x7v) := fun z => c20 (lc_le.mpr z)
                have hs := hs.2 c20
                refine lv_iconst (v := 1) hx hb dX6_sayLength_133 (by decide) ?_
                refine lv_goto (tgt := 138) hx hb dX6_sayLength_134 (by decide) ?_
                refine lv_istore (lv' := [(9, .int (1 : Int32)), (7, .long ((10 : Int64) * x7v)), (5, .long ((10 : Int64) * ((x5v - (17232 : Int64)) - (x5v - (17232 : Int64)) / (65536 : Int64) * (65536 : Int64)))), (3, .long a0), (0, .ref (ad 0)), (1, .long a0)]) hx hb dX6_sayLength_138 hl (by decide) rfl (fun ls hl => ?_)
                refine lv_goto (tgt := 63) hx hb dX6_sayLength_140 (by decide) ?_
                exact ih ((10 : Int64) * ((x5v - (17232 : Int64)) - (x5v - (17232 : Int64)) / (65536 : Int64) * (65536 : Int64))) ((10 : Int64) * x7v) (1 : Int32) u19.1 u19.2 _ _ _ hs (by rw [hq11, L_X6_sayLength_63]; simp only [if_neg c12, if_neg c14, ← hu19, if_neg c20, ↓reduceIte]) hP hS (lv_sub hl [2, 1, 0, 3, 4, 5] rfl)
      exact hlp10 10 (((10 : Int64) * (a0 - a0 / (65536 : Int64) * (65536 : Int64))) + (5 : Int64)) (10 : Int64) (1 : Int32) u6.1 u6.2 _ _ _ h8 hu7 hP hS (lv_sub hl [2, 1, 0, 3, 4, 5] rfl)
    · have c2 : ¬ (0 : Int64) ≤ a0 := fun z => c2 (lc_ge.mpr z)
      exact absurd c1 c2
  · have c1 : ¬ (0 : Int64) ≤ a0 := fun z => c1 (lc_ge.mpr z)
    have hs := hs.2 c1
    refine lv_aload_n hx hb dX6_sayLength_6 rfl (lv_at hl 0 rfl) ?_
    refine lv_bipush (v := 45) hx hb dX6_sayLength_7 (by decide) ?_
    obtain ⟨h21, hs⟩ := hs
    obtain ⟨u22, hu22⟩ : ∃ z, z = f_X6_say (45 : Int32) Si Te := ⟨_, rfl⟩
    have hs := hs u22 hu22
    refine q_X6_say hx hb hml hown hts mM_RX6_189 ⟨Nat.le_of_ble_eq_true rfl, Nat.le_of_ble_eq_true rfl⟩ ⟨Nat.le_of_ble_eq_true rfl, Nat.le_of_ble_eq_true rfl⟩ hl.1 (Nat.le_of_ble_eq_true rfl) hS dX6_sayLength_9 (fun _ h9 => fA_mono hS.1 h9) hi hK hP (45 : Int32) h21 u22 hu22 (fun H locs hP hS => ?_)
    refine lv_lload_n hx hb dX6_sayLength_12 rfl (lv_at hl 1 rfl) ?_
    refine lv_lconst (v := 0) hx hb dX6_sayLength_13 (by decide) ?_
    refine W.lcmp hx hb dX6_sayLength_14 ?_
    refine lv_if_ge (tgt := 23) hx hb dX6_sayLength_15 (by decide) (fun c23 => ?_) (fun c23 => ?_)
    · have c23 : (0 : Int64) ≤ a0 := lc_ge.mp c23
      exact absurd c23 c1
    · have c23 : ¬ (0 : Int64) ≤ a0 := fun z => c23 (lc_ge.mpr z)
      refine lv_lload_n hx hb dX6_sayLength_18 rfl (lv_at hl 1 rfl) ?_
      refine lv_lneg hx hb dX6_sayLength_19 ?_
      refine lv_goto (tgt := 24) hx hb dX6_sayLength_20 (by decide) ?_
      refine lv_lstore_n (lv' := [(3, .long (-a0)), (0, .ref (ad 0)), (1, .long a0)]) hx hb dX6_sayLength_24 rfl hl (by decide) rfl (fun ls hl => ?_)
      refine lv_aload_n hx hb dX6_sayLength_25 rfl (lv_at hl 1 rfl) ?_
      refine lv_lload_n hx hb dX6_sayLength_26 rfl (lv_at hl 0 rfl) ?_
      refine lv_ldc2 hx hb hown (hts _ mK_RX6_177) dX6_sayLength_27 ?_
      refine lv_ldiv hx hb dX6_sayLength_30 (by decide) ?_
      obtain ⟨h24, hs⟩ := hs
      obtain ⟨u25, hu25⟩ : ∃ z, z = f_X6_sayNumber ((-a0) / (65536 : Int64)) u22.1 u22.2 Bz Bk := ⟨_, rfl⟩
      have hs := hs u25 hu25
      refine q_X6_sayNumber hx hb hml hown hts mM_RX6_198 ⟨Nat.le_of_ble_eq_true rfl, Nat.le_of_ble_eq_true rfl⟩ ⟨Nat.le_of_ble_eq_true rfl, Nat.le_of_ble_eq_true rfl⟩ hl.1 (Nat.le_of_ble_eq_true rfl) hS dX6_sayLength_31 (fun _ h9 => fA_mono hS.1 h9) hi hK hP ((-a0) / (65536 : Int64)) h24 u25 hu25 (fun H locs hP hS => ?_)
      refine lv_aload_n hx hb dX6_sayLength_34 rfl (lv_at hl 1 rfl) ?_
      refine lv_bipush (v := 46) hx hb dX6_sayLength_35 (by decide) ?_
      obtain ⟨h26, hs⟩ := hs
      obtain ⟨u27, hu27⟩ : ∃ z, z = f_X6_say (46 : Int32) u25.1 u25.2.1 := ⟨_, rfl⟩
      have hs := hs u27 hu27
      refine q_X6_say hx hb hml hown hts mM_RX6_189 ⟨Nat.le_of_ble_eq_true rfl, Nat.le_of_ble_eq_true rfl⟩ ⟨Nat.le_of_ble_eq_true rfl, Nat.le_of_ble_eq_true rfl⟩ hl.1 (Nat.le_of_ble_eq_true rfl) hS dX6_sayLength_37 (fun _ h9 => fA_mono hS.1 h9) hi hK hP (46 : Int32) h26 u27 hu27 (fun H locs hP hS => ?_)
      refine lv_ldc2 hx hb hown (hts _ mK_RX6_147) dX6_sayLength_40 ?_
      refine lv_lload_n hx hb dX6_sayLength_43 rfl (lv_at hl 0 rfl) ?_
      refine lv_ldc2 hx hb hown (hts _ mK_RX6_177) dX6_sayLength_44 ?_
      refine lv_lrem hx hb dX6_sayLength_47 (by decide) ?_
      refine lv_lmul hx hb dX6_sayLength_48 ?_
      refine lv_ldc2 hx hb hown (hts _ mK_RX6_202) dX6_sayLength_49 ?_
      refine lv_ladd hx hb dX6_sayLength_52 ?_
      refine lv_lstore (lv' := [(5, .long (((10 : Int64) * ((-a0) - (-a0) / (65536 : Int64) * (65536 : Int64))) + (5 : Int64))), (3, .long (-a0)), (0, .ref (ad 0)), (1, .long a0)]) hx hb dX6_sayLength_53 hl (by decide) rfl (fun ls hl => ?_)
      refine lv_ldc2 hx hb hown (hts _ mK_RX6_147) dX6_sayLength_55 ?_
      refine lv_lstore (lv' := [(7, .long (10 : Int64)), (5, .long (((10 : Int64) * ((-a0) - (-a0) / (65536 : Int64) * (65536 : Int64))) + (5 : Int64))), (3, .long (-a0)), (0, .ref (ad 0)), (1, .long a0)]) hx hb dX6_sayLength_58 hl (by decide) rfl (fun ls hl => ?_)
      refine lv_iconst (v := 1) hx hb dX6_sayLength_60 (by decide) ?_
      refine lv_istore (lv' := [(9, .int (1 : Int32)), (7, .long (10 : Int64)), (5, .long (((10 : Int64) * ((-a0) - (-a0) / (65536 : Int64) * (65536 : Int64))) + (5 : Int64))), (3, .long (-a0)), (0, .ref (ad 0)), (1, .long a0)]) hx hb dX6_sayLength_61 hl (by decide) rfl (fun ls hl => ?_)
      obtain ⟨h29, hs⟩ := hs
      obtain ⟨u28, hu28⟩ : ∃ z, z = L_X6_sayLength_63 10 (((10 : Int64) * ((-a0) - (-a0) / (65536 : Int64) * (65536 : Int64))) + (5 : Int64)) (10 : Int64) (1 : Int32) u27.1 u27.2 := ⟨_, rfl⟩
      have hs := hs u28 hu28
      have hex30 : ∀ (H : Heap) (locs : List Loc) (ls : Array Slot), va_P (dC, dI) vwCl (wM ad cI cJ Th Ce Le De Ke Kc Ko Kl Kd Ug Ur Va To Tt Td Go Gg Ga Be Bt u28.2.2.2.1 u28.2.2.2.2 u25.2.2.1 u25.2.2.2) H → va_S (fA 17 ad s.heap.size) s.heap H locs → lv_has ls 10 [(5, .long u28.1), (7, .long u28.2.1), (9, .int u28.2.2.1), (3, .long (-a0)), (0, .ref (ad 0)), (1, .long a0)] → W p l e (headSpec (mW yX6_sayLength cX6_sayLength 10 none) { frames := 2, cells := 0, slots := 0, locals := 45 }).room s m ([.ref (ad 0), .long a0] : List Value).toArray below meth c H locs 0 0 Q9 (F0 m 143 ls []) := by
        intro H locs ls hP hS hl
        rw [hQ9]
        have hf : f_X6_sayLength a0 Si Te Bz Bk = (u28.2.2.2.1, u28.2.2.2.2, u25.2.2.1, u25.2.2.2) := by simp only [f_X6_sayLength, if_neg c1, ← hu22, ← hu25, ← hu27, ← hu28]
        exact W.vret hx hb hr (fun t ht hW => ⟨⟨(), rfl, True.intro, by rw [hf]; show va_P (dC, dI) vwCl _ t.heap; rw [ht]; exact hP⟩, hS.F ht⟩) hS.2.2 dX6_sayLength_143
      have hlp31 : ∀ (n : Nat) (x5v : Int64) (x7v : Int64) (x9v : Int32) (Siv : Int32) (Tev : Nat → Int32) (H : Heap) (locs : List Loc) (ls : Array Slot), SL_X6_sayLength_63 n x5v x7v x9v Siv Tev → u28 = L_X6_sayLength_63 n x5v x7v x9v Siv Tev → va_P (dC, dI) vwCl (wM ad cI cJ Th Ce Le De Ke Kc Ko Kl Kd Ug Ur Va To Tt Td Go Gg Ga Be Bt Siv Tev u25.2.2.1 u25.2.2.2) H → va_S (fA 17 ad s.heap.size) s.heap H locs → lv_has ls 10 [(5, .long x5v), (7, .long x7v), (9, .int x9v), (3, .long (-a0)), (0, .ref (ad 0)), (1, .long a0)] → W p l e (headSpec (mW yX6_sayLength cX6_sayLength 10 none) { frames := 2, cells := 0, slots := 0, locals := 45 }).room s m ([.ref (ad 0), .long a0] : List Value).toArray below meth c H locs 0 0 Q9 (F0 m 63 ls []) := by
        intro n
        induction n with
        | zero => intro x5v x7v x9v Siv Tev H locs ls hs; rw [SL_X6_sayLength_63] at hs; exact hs.elim
        | succ n ih =>
          intro x5v x7v x9v Siv Tev H locs ls hs hq32 hP hS hl
          rw [SL_X6_sayLength_63] at hs
          refine lv_iload hx hb dX6_sayLength_63 (lv_at hl 2 rfl) ?_
          refine lv_if_eq (tgt := 143) hx hb dX6_sayLength_65 (by decide) (fun c33 => ?_) (fun c33 => ?_)
          · have hs := hs.1 c33
            have he34 : u28 = (x5v, x7v, x9v, Siv, Tev) := by rw [hq32, L_X6_sayLength_63]; simp only [if_pos c33, ↓reduceIte]
            exact hex30 _ _ _ (by first | exact hP | (rw [he34]; exact hP)) hS (by first | exact lv_sub hl [0, 1, 2, 3, 4, 5] rfl | (rw [he34]; exact lv_sub hl [0, 1, 2, 3, 4, 5] rfl))
          · have hs := hs.2 c33
            refine lv_lload hx hb dX6_sayLength_68 (lv_at hl 1 rfl) ?_
            refine lv_ldc2 hx hb hown (hts _ mK_RX6_177) dX6_sayLength_70 ?_
            refine W.lcmp hx hb dX6_sayLength_73 ?_
            refine lv_if_le (tgt := 86) hx hb dX6_sayLength_74 (by decide) (fun c35 => ?_) (fun c35 => ?_)
            · have c35 : x7v ≤ (65536 : Int64) := lc_le.mp c35
              have hs := hs.1 c35
              refine lv_lload hx hb dX6_sayLength_86 (lv_at hl 0 rfl) ?_
              refine lv_lstore (lv' := [(5, .long x5v), (7, .long x7v), (9, .int x9v), (3, .long (-a0)), (0, .ref (ad 0)), (1, .long a0)]) hx hb dX6_sayLength_88 hl (by decide) rfl (fun ls hl => ?_)
              refine lv_aload_n hx hb dX6_sayLength_90 rfl (lv_at hl 4 rfl) ?_
              refine lv_ldc2 hx hb hown (hts _ mK_RX6_196) dX6_sayLength_91 ?_
              refine lv_lload hx hb dX6_sayLength_94 (lv_at hl 0 rfl) ?_
              refine lv_ldc2 hx hb hown (hts _ mK_RX6_177) dX6_sayLength_96 ?_
              refine lv_ldiv hx hb dX6_sayLength_99 (by decide) ?_
              refine lv_ladd hx hb dX6_sayLength_100 ?_
              refine lv_l2i hx hb dX6_sayLength_101 rfl ?_
              obtain ⟨h36, hs⟩ := hs
              obtain ⟨u37, hu37⟩ : ∃ z, z = f_X6_say (((48 : Int64) + (x5v / (65536 : Int64))).toInt32) Siv Tev := ⟨_, rfl⟩
              have hs := hs u37 hu37
              refine q_X6_say hx hb hml hown hts mM_RX6_189 ⟨Nat.le_of_ble_eq_true rfl, Nat.le_of_ble_eq_true rfl⟩ ⟨Nat.le_of_ble_eq_true rfl, Nat.le_of_ble_eq_true rfl⟩ hl.1 (Nat.le_of_ble_eq_true rfl) hS dX6_sayLength_102 (fun _ h9 => fA_mono hS.1 h9) hi hK hP (((48 : Int64) + (x5v / (65536 : Int64))).toInt32) h36 u37 hu37 (fun H locs hP hS => ?_)
              refine lv_ldc2 hx hb hown (hts _ mK_RX6_147) dX6_sayLength_105 ?_
              refine lv_lload hx hb dX6_sayLength_108 (lv_at hl 0 rfl) ?_
              refine lv_ldc2 hx hb hown (hts _ mK_RX6_177) dX6_sayLength_110 ?_
              refine lv_lrem hx hb dX6_sayLength_113 (by decide) ?_
              refine lv_lmul hx hb dX6_sayLength_114 ?_
              refine lv_lstore (lv' := [(5, .long ((10 : Int64) * (x5v - x5v / (65536 : Int64) * (65536 : Int64)))), (7, .long x7v), (9, .int x9v), (3, .long (-a0)), (0, .ref (ad 0)), (1, .long a0)]) hx hb dX6_sayLength_115 hl (by decide) rfl (fun ls hl => ?_)
              refine lv_ldc2 hx hb hown (hts _ mK_RX6_147) dX6_sayLength_117 ?_
              refine lv_lload hx hb dX6_sayLength_120 (lv_at hl 1 rfl) ?_
              refine lv_lmul hx hb dX6_sayLength_122 ?_
              refine lv_lstore (lv' := [(7, .long ((10 : Int64) * x7v)), (5, .long ((10 : Int64) * (x5v - x5v / (65536 : Int64) * (65536 : Int64)))), (9, .int x9v), (3, .long (-a0)), (0, .ref (ad 0)), (1, .long a0)]) hx hb dX6_sayLength_123 hl (by decide) rfl (fun ls hl => ?_)
              refine lv_lload hx hb dX6_sayLength_125 (lv_at hl 1 rfl) ?_
              refine lv_lload hx hb dX6_sayLength_127 (lv_at hl 0 rfl) ?_
              refine W.lcmp hx hb dX6_sayLength_129 ?_
              refine lv_if_le (tgt := 137) hx hb dX6_sayLength_130 (by decide) (fun c38 => ?_) (fun c38 => ?_)
              · have c38 : ((10 : Int64) * (x5v - x5v / (65536 : Int64) * (65536 : Int64))) ≤ ((10 : Int64) * x7v) := lc_le.mp c38
                have hs := hs.1 c38
                refine lv_iconst (v := 0) hx hb dX6_sayLength_137 (by decide) ?_
                refine lv_istore (lv' := [(9, .int (0 : Int32)), (7, .long ((10 : Int64) * x7v)), (5, .long ((10 : Int64) * (x5v - x5v / (65536 : Int64) * (65536 : Int64)))), (3, .long (-a0)), (0, .ref (ad 0)), (1, .long a0)]) hx hb dX6_sayLength_138 hl (by decide) rfl (fun ls hl => ?_)
                refine lv_goto (tgt := 63) hx hb dX6_sayLength_140 (by decide) ?_
                exact ih ((10 : Int64) * (x5v - x5v / (65536 : Int64) * (65536 : Int64))) ((10 : Int64) * x7v) (0 : Int32) u37.1 u37.2 _ _ _ hs (by rw [hq32, L_X6_sayLength_63]; simp only [if_neg c33, if_pos c35, ← hu37, if_pos c38, ↓reduceIte]) hP hS (lv_sub hl [2, 1, 0, 3, 4, 5] rfl)
              · have c38 : ¬ ((10 : Int64) * (x5v - x5v / (65536 : Int64) * (65536 : Int64))) ≤ ((10 : Int64) * x7v) := fun z => c38 (lc_le.mpr z)
                have hs := hs.2 c38
                refine lv_iconst (v := 1) hx hb dX6_sayLength_133 (by decide) ?_
                refine lv_goto (tgt := 138) hx hb dX6_sayLength_134 (by decide) ?_
                refine lv_istore (lv' := [(9, .int (1 : Int32)), (7, .long ((10 : Int64) * x7v)), (5, .long ((10 : Int64) * (x5v - x5v / (65536 : Int64) * (65536 : Int64)))), (3, .long (-a0)), (0, .ref (ad 0)), (1, .long a0)]) hx hb dX6_sayLength_138 hl (by decide) rfl (fun ls hl => ?_)
                refine lv_goto (tgt := 63) hx hb dX6_sayLength_140 (by decide) ?_
                exact ih ((10 : Int64) * (x5v - x5v / (65536 : Int64) * (65536 : Int64))) ((10 : Int64) * x7v) (1 : Int32) u37.1 u37.2 _ _ _ hs (by rw [hq32, L_X6_sayLength_63]; simp only [if_neg c33, if_pos c35, ← hu37, if_neg c38, ↓reduceIte]) hP hS (lv_sub hl [2, 1, 0, 3, 4, 5] rfl)
            · have c35 : ¬ x7v ≤ (65536 : Int64) := fun z => c35 (lc_le.mpr z)
              have hs := hs.2 c35
              refine lv_lload hx hb dX6_sayLength_77 (lv_at hl 0 rfl) ?_
              refine lv_ldc2 hx hb hown (hts _ mK_RX6_204) dX6_sayLength_79 ?_
              refine lv_lsub hx hb dX6_sayLength_82 ?_
              refine lv_goto (tgt := 88) hx hb dX6_sayLength_83 (by decide) ?_
              refine lv_lstore (lv' := [(5, .long (x5v - (17232 : Int64))), (7, .long x7v), (9, .int x9v), (3, .long (-a0)), (0, .ref (ad 0)), (1, .long a0)]) hx hb dX6_sayLength_88 hl (by decide) rfl (fun ls hl => ?_)
              refine lv_aload_n hx hb dX6_sayLength_90 rfl (lv_at hl 4 rfl) ?_
              refine lv_ldc2 hx hb hown (hts _ mK_RX6_196) dX6_sayLength_91 ?_
              refine lv_lload hx hb dX6_sayLength_94 (lv_at hl 0 rfl) ?_
              refine lv_ldc2 hx hb hown (hts _ mK_RX6_177) dX6_sayLength_96 ?_
              refine lv_ldiv hx hb dX6_sayLength_99 (by decide) ?_
              refine lv_ladd hx hb dX6_sayLength_100 ?_
              refine lv_l2i hx hb dX6_sayLength_101 rfl ?_
              obtain ⟨h39, hs⟩ := hs
              obtain ⟨u40, hu40⟩ : ∃ z, z = f_X6_say (((48 : Int64) + ((x5v - (17232 : Int64)) / (65536 : Int64))).toInt32) Siv Tev := ⟨_, rfl⟩
              have hs := hs u40 hu40
              refine q_X6_say hx hb hml hown hts mM_RX6_189 ⟨Nat.le_of_ble_eq_true rfl, Nat.le_of_ble_eq_true rfl⟩ ⟨Nat.le_of_ble_eq_true rfl, Nat.le_of_ble_eq_true rfl⟩ hl.1 (Nat.le_of_ble_eq_true rfl) hS dX6_sayLength_102 (fun _ h9 => fA_mono hS.1 h9) hi hK hP (((48 : Int64) + ((x5v - (17232 : Int64)) / (65536 : Int64))).toInt32) h39 u40 hu40 (fun H locs hP hS => ?_)
              refine lv_ldc2 hx hb hown (hts _ mK_RX6_147) dX6_sayLength_105 ?_
              refine lv_lload hx hb dX6_sayLength_108 (lv_at hl 0 rfl) ?_
              refine lv_ldc2 hx hb hown (hts _ mK_RX6_177) dX6_sayLength_110 ?_
              refine lv_lrem hx hb dX6_sayLength_113 (by decide) ?_
              refine lv_lmul hx hb dX6_sayLength_114 ?_
              refine lv_lstore (lv' := [(5, .long ((10 : Int64) * ((x5v - (17232 : Int64)) - (x5v - (17232 : Int64)) / (65536 : Int64) * (65536 : Int64)))), (7, .long x7v), (9, .int x9v), (3, .long (-a0)), (0, .ref (ad 0)), (1, .long a0)]) hx hb dX6_sayLength_115 hl (by decide) rfl (fun ls hl => ?_)
              refine lv_ldc2 hx hb hown (hts _ mK_RX6_147) dX6_sayLength_117 ?_
              refine lv_lload hx hb dX6_sayLength_120 (lv_at hl 1 rfl) ?_
              refine lv_lmul hx hb dX6_sayLength_122 ?_
              refine lv_lstore (lv' := [(7, .long ((10 : Int64) * x7v)), (5, .long ((10 : Int64) * ((x5v - (17232 : Int64)) - (x5v - (17232 : Int64)) / (65536 : Int64) * (65536 : Int64)))), (9, .int x9v), (3, .long (-a0)), (0, .ref (ad 0)), (1, .long a0)]) hx hb dX6_sayLength_123 hl (by decide) rfl (fun ls hl => ?_)
              refine lv_lload hx hb dX6_sayLength_125 (lv_at hl 1 rfl) ?_
              refine lv_lload hx hb dX6_sayLength_127 (lv_at hl 0 rfl) ?_
              refine W.lcmp hx hb dX6_sayLength_129 ?_
              refine lv_if_le (tgt := 137) hx hb dX6_sayLength_130 (by decide) (fun c41 => ?_) (fun c41 => ?_)
              · have c41 : ((10 : Int64) * ((x5v - (17232 : Int64)) - (x5v - (17232 : Int64)) / (65536 : Int64) * (65536 : Int64))) ≤ ((10 : Int64) * x7v) := lc_le.mp c41
                have hs := hs.1 c41
                refine lv_iconst (v := 0) hx hb dX6_sayLength_137 (by decide) ?_
                refine lv_istore (lv' := [(9, .int (0 : Int32)), (7, .long ((10 : Int64) * x7v)), (5, .long ((10 : Int64) * ((x5v - (17232 : Int64)) - (x5v - (17232 : Int64)) / (65536 : Int64) * (65536 : Int64)))), (3, .long (-a0)), (0, .ref (ad 0)), (1, .long a0)]) hx hb dX6_sayLength_138 hl (by decide) rfl (fun ls hl => ?_)
                refine lv_goto (tgt := 63) hx hb dX6_sayLength_140 (by decide) ?_
                exact ih ((10 : Int64) * ((x5v - (17232 : Int64)) - (x5v - (17232 : Int64)) / (65536 : Int64) * (65536 : Int64))) ((10 : Int64) * x7v) (0 : Int32) u40.1 u40.2 _ _ _ hs (by rw [hq32, L_X6_sayLength_63]; simp only [if_neg c33, if_neg c35, ← hu40, if_pos c41, ↓reduceIte]) hP hS (lv_sub hl [2, 1, 0, 3, 4, 5] rfl)
              · have c41 : ¬ ((10 : Int64) * ((x5v - (17232 : Int64)) - (x5v - (17232 : Int64)) / (65536 : Int64) * (65536 : Int64))) ≤ ((10 : Int64) * x7v) := fun z => c41 (lc_le.mpr z)
                have hs := hs.2 c41
                refine lv_iconst (v := 1) hx hb dX6_sayLength_133 (by decide) ?_
                refine lv_goto (tgt := 138) hx hb dX6_sayLength_134 (by decide) ?_
                refine lv_istore (lv' := [(9, .int (1 : Int32)), (7, .long ((10 : Int64) * x7v)), (5, .long ((10 : Int64) * ((x5v - (17232 : Int64)) - (x5v - (17232 : Int64)) / (65536 : Int64) * (65536 : Int64)))), (3, .long (-a0)), (0, .ref (ad 0)), (1, .long a0)]) hx hb dX6_sayLength_138 hl (by decide) rfl (fun ls hl => ?_)
                refine lv_goto (tgt := 63) hx hb dX6_sayLength_140 (by decide) ?_
                exact ih ((10 : Int64) * ((x5v - (17232 : Int64)) - (x5v - (17232 : Int64)) / (65536 : Int64) * (65536 : Int64))) ((10 : Int64) * x7v) (1 : Int32) u40.1 u40.2 _ _ _ hs (by rw [hq32, L_X6_sayLength_63]; simp only [if_neg c33, if_neg c35, ← hu40, if_neg c41, ↓reduceIte]) hP hS (lv_sub hl [2, 1, 0, 3, 4, 5] rfl)
      exact hlp31 10 (((10 : Int64) * ((-a0) - (-a0) / (65536 : Int64) * (65536 : Int64))) + (5 : Int64)) (10 : Int64) (1 : Int32) u27.1 u27.2 _ _ _ h29 hu28 hP hS (lv_sub hl [2, 1, 0, 3, 4, 5] rfl)
theorem q_X6_sayLength {p : Program} {l : Launch} {e : Env} {R : Room} {s : State} {m : MethodId} {args : Array Value} {below : List Frame} {meth : Method} {c : Code} {H : Heap} {locs : List Loc} {cells slots : Nat} {Q : State → Prop} {pc : Nat} {ls : Array Slot} {rest : List Value} {cc : ByteArray} {nL idx : Nat} {own : String} {A0 : Nat → Prop} {dC : Nat → ClassId} {dI : Nat → Nat → Nat} {cI cJ : ClassId} {ad : Nat → Nat} {Th : Int32} {Ce : Nat → Int64} {Le : Nat → Int32} {De : Int32} {Ke : Int32} {Kc : Nat → Int64} {Ko : Nat → Int32} {Kl : Nat → Int32} {Kd : Nat → Int32} {Ug : Nat → Int64} {Ur : Nat → Int64} {Va : Nat → Int64} {To : Int32} {Tt : Nat → Int32} {Td : Nat → Int32} {Go : Int32} {Gg : Nat → Int32} {Ga : Nat → Int32} {Be : Int32} {Bt : Nat → Int32} {Si : Int32} {Te : Nat → Int32} {Bz : Int32} {Bk : Nat → Int32} (hx : p.tables.exec = Jvm.exec) (hb : c.code = cc) (hml : c.maxLocals = nL) (hown : s.vm.findClass own = some m.cls) (hts : ∀ w ∈ bigW, w.before args s = true) (hlk : Cond.methodLink own idx yX6_sayLength ∈ bigW) (hR : 3 ≤ R.frames ∧ 74 ≤ R.locals) (hf : cells + 0 ≤ R.cells ∧ slots + 0 ≤ R.slots) (hz : ls.size = nL) (hw : (rest.map fun v => v.category).sum ≤ 8) (hS : va_S A0 s.heap H locs) (hd : decode cc pc = .ok (.invokevirtual idx, 3)) (hA : ∀ q, fA 17 ad H.size q → A0 q) (hi : fI 17 ad) (hK : va_K (dC, dI) vwCl [(cI, .int), (cJ, .long)] s) (hP : va_P (dC, dI) vwCl (wM ad cI cJ Th Ce Le De Ke Kc Ko Kl Kd Ug Ur Va To Tt Td Go Gg Ga Be Bt Si Te Bz Bk) H) (a0 : Int64) (hs : S_X6_sayLength a0 Si Te Bz Bk)  (u : Int32 × (Nat → Int32) × Int32 × (Nat → Int32)) (hu : u = f_X6_sayLength a0 Si Te Bz Bk) (k : ∀ (H1 : Heap) (locs1 : List Loc), va_P (dC, dI) vwCl (wM ad cI cJ Th Ce Le De Ke Kc Ko Kl Kd Ug Ur Va To Tt Td Go Gg Ga Be Bt u.1 u.2.1 u.2.2.1 u.2.2.2) H1 → va_S A0 s.heap H1 locs1 → W p l e R s m args below meth c H1 locs1 (cells + 0) (slots + 0) Q (F0 m (pc + 3) ls (rest))) : W p l e R s m args below meth c H locs cells slots Q (F0 m pc ls (.long a0 :: .ref (ad 0) :: rest)) := by
  subst hu
  exact va_callv (va_runV (As := [.long a0]) (rest := rest) ⟨hx, hb, hml, hown, hts⟩ (c_X6_sayLength l dC dI cI cJ ad hi H.size Th Ce Le De Ke Kc Ko Kl Kd Ug Ur Va To Tt Td Go Gg Ga Be Bt Si Te Bz Bk a0 hs) (kV 1 hts hlk mI_X6_sayLength mN_RX6 mY_X6_sayLength mV_X6_sayLength rfl rfl (by decide +kernel) hR) ⟨fun a U g mk q => ⟨q.1, q.2.1, q.2.2.1, va_K.moved (u := U) (U := U.calling g mk a) (Vm.Alike.refl U.vm) q.2.2.2⟩, va_recv hK hP (ci := 8) (q0 := 0) rfl rfl, fun U hU hW => ⟨rfl, by rw [hU], by rw [hU]; exact hP, va_K.moved hW.alike hK⟩⟩ rfl rfl hz rfl (lv_room hw) hd hf) hS (fun q _ h => hA q h) (fun q h => hA q h) (fun u t H1 locs1 ht hvm hw9 hB hz1 hk1 hS1 => by
    skip
    exact k H1 locs1 (by rw [← ht]; exact hB) hS1)

def L_X6_sayOrder_36 : Nat → Int32 → Int32 → (Nat → Int32) → Int64 → Int32 × Int32 × (Nat → Int32)
  | 0, x3, Si, Te, x1 => (x3, Si, Te)
  | n + 1, x3, Si, Te, x1 => (if x1 ≤ x3.toInt64 then (x3, Si, Te) else (let u9 := f_X6_say (108 : Int32) Si Te; L_X6_sayOrder_36 n (x3 + 1) u9.1 u9.2 x1))
def SL_X6_sayOrder_36 : Nat → Int32 → Int32 → (Nat → Int32) → Int64 → Prop
  | 0, _, _, _, _ => False
  | n + 1, x3, Si, Te, x1 => (x1 ≤ x3.toInt64 → (True)) ∧ (¬ x1 ≤ x3.toInt64 → ((S_X6_say (108 : Int32) Si Te) ∧ (∀ u9, u9 = f_X6_say (108 : Int32) Si Te → (SL_X6_sayOrder_36 n (x3 + 1) u9.1 u9.2 x1))))
def f_X6_sayOrder (a0 : Int64) (Si : Int32) (Te : Nat → Int32) : Int32 × (Nat → Int32) := (if a0 = (0 : Int64) then (let u17 := f_X6_say (112 : Int32) Si Te; (let u20 := f_X6_say (116 : Int32) u17.1 u17.2; (let u21 := L_X6_sayOrder_36 5 (0 : Int32) u20.1 u20.2 a0; (u21.2.1, u21.2.2)))) else (let u3 := f_X6_say (102 : Int32) Si Te; (let u6 := f_X6_say (105 : Int32) u3.1 u3.2; (let u7 := L_X6_sayOrder_36 5 (0 : Int32) u6.1 u6.2 a0; (u7.2.1, u7.2.2)))))
def S_X6_sayOrder (a0 : Int64) (Si : Int32) (Te : Nat → Int32) : Prop := (a0 = (0 : Int64) → ((S_X6_say (112 : Int32) Si Te) ∧ (∀ u17, u17 = f_X6_say (112 : Int32) Si Te → ((S_X6_say (116 : Int32) u17.1 u17.2) ∧ (∀ u20, u20 = f_X6_say (116 : Int32) u17.1 u17.2 → ((SL_X6_sayOrder_36 5 (0 : Int32) u20.1 u20.2 a0) ∧ (∀ u21, u21 = L_X6_sayOrder_36 5 (0 : Int32) u20.1 u20.2 a0 → (True)))))))) ∧ (¬ a0 = (0 : Int64) → ((S_X6_say (102 : Int32) Si Te) ∧ (∀ u3, u3 = f_X6_say (102 : Int32) Si Te → ((S_X6_say (105 : Int32) u3.1 u3.2) ∧ (∀ u6, u6 = f_X6_say (105 : Int32) u3.1 u3.2 → ((SL_X6_sayOrder_36 5 (0 : Int32) u6.1 u6.2 a0) ∧ (∀ u7, u7 = L_X6_sayOrder_36 5 (0 : Int32) u6.1 u6.2 a0 → (True))))))))
set_option maxHeartbeats 4000000 in
set_option maxRecDepth 100000 in
theorem c_X6_sayOrder (l : Launch) (dC : Nat → ClassId) (dI : Nat → Nat → Nat) (cI cJ : ClassId) (ad : Nat → Nat) (hi : fI 17 ad) (sz : Nat) (Th : Int32) (Ce : Nat → Int64) (Le : Nat → Int32) (De : Int32) (Ke : Int32) (Kc : Nat → Int64) (Ko : Nat → Int32) (Kl : Nat → Int32) (Kd : Nat → Int32) (Ug : Nat → Int64) (Ur : Nat → Int64) (Va : Nat → Int64) (To : Int32) (Tt : Nat → Int32) (Td : Nat → Int32) (Go : Int32) (Gg : Nat → Int32) (Ga : Nat → Int32) (Be : Int32) (Bt : Nat → Int32) (Si : Int32) (Te : Nat → Int32) (Bz : Int32) (Bk : Nat → Int32) (a0 : Int64) (hs : S_X6_sayOrder a0 Si Te) : Met l yX6_sayOrder (mW yX6_sayOrder cX6_sayOrder 4 none) { frames := 1, cells := 0, slots := 0, locals := 21 } (va_Pc [.ref (ad 0), .long a0] (fun U => U.heap.size = sz ∧ va_P (dC, dI) vwCl (wM ad cI cJ Th Ce Le De Ke Kc Ko Kl Kd Ug Ur Va To Tt Td Go Gg Ga Be Bt Si Te Bz Bk) U.heap ∧ va_K (dC, dI) vwCl [(cI, .int), (cJ, .long)] U)) (va_Qv (fun (_ : Unit) => True) (fun _ t => va_P (dC, dI) vwCl (wM ad cI cJ Th Ce Le De Ke Kc Ko Kl Kd Ug Ur Va To Tt Td Go Gg Ga Be Bt ((f_X6_sayOrder a0 Si Te).1) ((f_X6_sayOrder a0 Si Te).2) Bz Bk) t.heap) (fA 17 ad sz)) 0 0 (fA 17 ad sz) := by
  refine Met.ofW (cc := cX6_sayOrder) (maxL := 4) (ret := none) (by decide) rfl ?_
  intro p e s m args below meth c s₁ B hml hv
  obtain ⟨rfl, hsz, hP, hK⟩ := hv
  have hx := B.exec
  have hb := B.bytes
  have hr := B.returns
  have hts := mW_hts (atoms_spec (ws := (mW yX6_sayOrder cX6_sayOrder 4 none)) B.pre)
  have hown : s.vm.findClass RX6 = some m.cls := findClass_of_methodNamed B.named
  have hlocks := B.notSynchronized
  subst hsz
  have hA : ∀ (n : Nat) (q : Nat), s.heap.size ≤ n → n ≤ q → fA 17 ad s.heap.size q := fun n q h1 h2 => Or.inr (Nat.le_trans h1 h2)
  have hS : va_S (fA 17 ad s.heap.size) s.heap s.heap [] := va_S.rf
  have hA : ∀ q, s.heap.size ≤ q → (fA 17 ad s.heap.size) q := fun q h => Or.inr h
  unfold S_X6_sayOrder at hs
  have hl := lv_entry ([.ref (ad 0), .long a0]) (n := 4) (Nat.le_of_ble_eq_true rfl)
  rw [lg_entry_eq]
  generalize (lg_sl ([.ref (ad 0), .long a0]) ++ List.replicate (4 - (lg_sl ([.ref (ad 0), .long a0])).length) Slot.unset).toArray = ls at hl ⊢
  have hl : lv_has ls 4 [(0, .ref (ad 0)), (1, .long a0)] := hl
  refine W_gen (fun Q9 hQ9 => ?_)
  refine lv_aload_n hx hb dX6_sayOrder_0 rfl (lv_at hl 0 rfl) ?_
  refine lv_lload_n hx hb dX6_sayOrder_1 rfl (lv_at hl 1 rfl) ?_
  refine lv_lconst (v := 0) hx hb dX6_sayOrder_2 (by decide) ?_
  refine W.lcmp hx hb dX6_sayOrder_3 ?_
  refine lv_if_ne (tgt := 12) hx hb dX6_sayOrder_4 (by decide) (fun c1 => ?_) (fun c1 => ?_)
  · have c1 : ¬ a0 = (0 : Int64) := fun z => c1 (lc_eq.mpr z)
    have hs := hs.2 c1
    refine lv_bipush (v := 102) hx hb dX6_sayOrder_12 (by decide) ?_
    obtain ⟨h2, hs⟩ := hs
    obtain ⟨u3, hu3⟩ : ∃ z, z = f_X6_say (102 : Int32) Si Te := ⟨_, rfl⟩
    have hs := hs u3 hu3
    refine q_X6_say hx hb hml hown hts mM_RX6_189 ⟨Nat.le_of_ble_eq_true rfl, Nat.le_of_ble_eq_true rfl⟩ ⟨Nat.le_of_ble_eq_true rfl, Nat.le_of_ble_eq_true rfl⟩ hl.1 (Nat.le_of_ble_eq_true rfl) hS dX6_sayOrder_14 (fun _ h9 => fA_mono hS.1 h9) hi hK hP (102 : Int32) h2 u3 hu3 (fun H locs hP hS => ?_)
    refine lv_aload_n hx hb dX6_sayOrder_17 rfl (lv_at hl 0 rfl) ?_
    refine lv_lload_n hx hb dX6_sayOrder_18 rfl (lv_at hl 1 rfl) ?_
    refine lv_lconst (v := 0) hx hb dX6_sayOrder_19 (by decide) ?_
    refine W.lcmp hx hb dX6_sayOrder_20 ?_
    refine lv_if_ne (tgt := 29) hx hb dX6_sayOrder_21 (by decide) (fun c4 => ?_) (fun c4 => ?_)
    · have c4 : ¬ a0 = (0 : Int64) := fun z => c4 (lc_eq.mpr z)
      refine lv_bipush (v := 105) hx hb dX6_sayOrder_29 (by decide) ?_
      obtain ⟨h5, hs⟩ := hs
      obtain ⟨u6, hu6⟩ : ∃ z, z = f_X6_say (105 : Int32) u3.1 u3.2 := ⟨_, rfl⟩
      have hs := hs u6 hu6
      refine q_X6_say hx hb hml hown hts mM_RX6_189 ⟨Nat.le_of_ble_eq_true rfl, Nat.le_of_ble_eq_true rfl⟩ ⟨Nat.le_of_ble_eq_true rfl, Nat.le_of_ble_eq_true rfl⟩ hl.1 (Nat.le_of_ble_eq_true rfl) hS dX6_sayOrder_31 (fun _ h9 => fA_mono hS.1 h9) hi hK hP (105 : Int32) h5 u6 hu6 (fun H locs hP hS => ?_)
      refine lv_iconst (v := 0) hx hb dX6_sayOrder_34 (by decide) ?_
      refine lv_istore_n (lv' := [(3, .int (0 : Int32)), (0, .ref (ad 0)), (1, .long a0)]) hx hb dX6_sayOrder_35 rfl hl (by decide) rfl (fun ls hl => ?_)
      obtain ⟨h8, hs⟩ := hs
      obtain ⟨u7, hu7⟩ : ∃ z, z = L_X6_sayOrder_36 5 (0 : Int32) u6.1 u6.2 a0 := ⟨_, rfl⟩
      have hs := hs u7 hu7
      have hex9 : ∀ (H : Heap) (locs : List Loc) (ls : Array Slot), va_P (dC, dI) vwCl (wM ad cI cJ Th Ce Le De Ke Kc Ko Kl Kd Ug Ur Va To Tt Td Go Gg Ga Be Bt u7.2.1 u7.2.2 Bz Bk) H → va_S (fA 17 ad s.heap.size) s.heap H locs → lv_has ls 4 [(3, .int u7.1), (0, .ref (ad 0)), (1, .long a0)] → W p l e (headSpec (mW yX6_sayOrder cX6_sayOrder 4 none) { frames := 1, cells := 0, slots := 0, locals := 21 }).room s m ([.ref (ad 0), .long a0] : List Value).toArray below meth c H locs 0 0 Q9 (F0 m 55 ls []) := by
        intro H locs ls hP hS hl
        rw [hQ9]
        have hf : f_X6_sayOrder a0 Si Te = (u7.2.1, u7.2.2) := by simp only [f_X6_sayOrder, if_neg c1, ← hu3, ← hu6, ← hu7]
        exact W.vret hx hb hr (fun t ht hW => ⟨⟨(), rfl, True.intro, by rw [hf]; show va_P (dC, dI) vwCl _ t.heap; rw [ht]; exact hP⟩, hS.F ht⟩) hS.2.2 dX6_sayOrder_55
      have hlp10 : ∀ (n : Nat) (x3v : Int32) (Siv : Int32) (Tev : Nat → Int32) (H : Heap) (locs : List Loc) (ls : Array Slot), SL_X6_sayOrder_36 n x3v Siv Tev a0 → u7 = L_X6_sayOrder_36 n x3v Siv Tev a0 → va_P (dC, dI) vwCl (wM ad cI cJ Th Ce Le De Ke Kc Ko Kl Kd Ug Ur Va To Tt Td Go Gg Ga Be Bt Siv Tev Bz Bk) H → va_S (fA 17 ad s.heap.size) s.heap H locs → lv_has ls 4 [(3, .int x3v), (0, .ref (ad 0)), (1, .long a0)] → W p l e (headSpec (mW yX6_sayOrder cX6_sayOrder 4 none) { frames := 1, cells := 0, slots := 0, locals := 21 }).room s m ([.ref (ad 0), .long a0] : List Value).toArray below meth c H locs 0 0 Q9 (F0 m 36 ls []) := by
        intro n
        induction n with
        | zero => intro x3v Siv Tev H locs ls hs; rw [SL_X6_sayOrder_36] at hs; exact hs.elim
        | succ n ih =>
          intro x3v Siv Tev H locs ls hs hq11 hP hS hl
          rw [SL_X6_sayOrder_36] at hs
          refine lv_iload_n hx hb dX6_sayOrder_36 rfl (lv_at hl 0 rfl) ?_
          refine lv_i2l hx hb dX6_sayOrder_37 rfl ?_
          refine lv_lload_n hx hb dX6_sayOrder_38 rfl (lv_at hl 2 rfl) ?_
          refine W.lcmp hx hb dX6_sayOrder_39 ?_
          refine lv_if_ge (tgt := 55) hx hb dX6_sayOrder_40 (by decide) (fun c12 => ?_) (fun c12 => ?_)
          · have c12 : a0 ≤ x3v.toInt64 := lc_ge.mp c12
            have hs := hs.1 c12
            have he13 : u7 = (x3v, Siv, Tev) := by rw [hq11, L_X6_sayOrder_36]; simp only [if_pos c12, ↓reduceIte]
            exact hex9 _ _ _ (by first | exact hP | (rw [he13]; exact hP)) hS (by first | exact lv_sub hl [0, 1, 2] rfl | (rw [he13]; exact lv_sub hl [0, 1, 2] rfl))
          · have c12 : ¬ a0 ≤ x3v.toInt64 := fun z => c12 (lc_ge.mpr z)
            have hs := hs.2 c12
            refine lv_aload_n hx hb dX6_sayOrder_43 rfl (lv_at hl 1 rfl) ?_
            refine lv_bipush (v := 108) hx hb dX6_sayOrder_44 (by decide) ?_
            obtain ⟨h14, hs⟩ := hs
            obtain ⟨u15, hu15⟩ : ∃ z, z = f_X6_say (108 : Int32) Siv Tev := ⟨_, rfl⟩
            have hs := hs u15 hu15
            refine q_X6_say hx hb hml hown hts mM_RX6_189 ⟨Nat.le_of_ble_eq_true rfl, Nat.le_of_ble_eq_true rfl⟩ ⟨Nat.le_of_ble_eq_true rfl, Nat.le_of_ble_eq_true rfl⟩ hl.1 (Nat.le_of_ble_eq_true rfl) hS dX6_sayOrder_46 (fun _ h9 => fA_mono hS.1 h9) hi hK hP (108 : Int32) h14 u15 hu15 (fun H locs hP hS => ?_)
            refine lv_iinc (v := (x3v + 1)) (lv' := [(3, .int (x3v + 1)), (0, .ref (ad 0)), (1, .long a0)]) hx hb dX6_sayOrder_49 hl (k := 0) rfl rfl (by decide) rfl (fun ls hl => ?_)
            refine lv_goto (tgt := 36) hx hb dX6_sayOrder_52 (by decide) ?_
            exact ih (x3v + 1) u15.1 u15.2 _ _ _ hs (by rw [hq11, L_X6_sayOrder_36]; simp only [if_neg c12, ← hu15, ↓reduceIte]) hP hS (lv_sub hl [0, 1, 2] rfl)
      exact hlp10 5 (0 : Int32) u6.1 u6.2 _ _ _ h8 hu7 hP hS (lv_sub hl [0, 1, 2] rfl)
    · have c4 : a0 = (0 : Int64) := lc_eq.mp c4
      exact absurd c4 c1
  · have c1 : a0 = (0 : Int64) := lc_eq.mp c1
    have hs := hs.1 c1
    refine lv_bipush (v := 112) hx hb dX6_sayOrder_7 (by decide) ?_
    refine lv_goto (tgt := 14) hx hb dX6_sayOrder_9 (by decide) ?_
    obtain ⟨h16, hs⟩ := hs
    obtain ⟨u17, hu17⟩ : ∃ z, z = f_X6_say (112 : Int32) Si Te := ⟨_, rfl⟩
    have hs := hs u17 hu17
    refine q_X6_say hx hb hml hown hts mM_RX6_189 ⟨Nat.le_of_ble_eq_true rfl, Nat.le_of_ble_eq_true rfl⟩ ⟨Nat.le_of_ble_eq_true rfl, Nat.le_of_ble_eq_true rfl⟩ hl.1 (Nat.le_of_ble_eq_true rfl) hS dX6_sayOrder_14 (fun _ h9 => fA_mono hS.1 h9) hi hK hP (112 : Int32) h16 u17 hu17 (fun H locs hP hS => ?_)
    refine lv_aload_n hx hb dX6_sayOrder_17 rfl (lv_at hl 0 rfl) ?_
    refine lv_lload_n hx hb dX6_sayOrder_18 rfl (lv_at hl 1 rfl) ?_
    refine lv_lconst (v := 0) hx hb dX6_sayOrder_19 (by decide) ?_
    refine W.lcmp hx hb dX6_sayOrder_20 ?_
    refine lv_if_ne (tgt := 29) hx hb dX6_sayOrder_21 (by decide) (fun c18 => ?_) (fun c18 => ?_)
    · have c18 : ¬ a0 = (0 : Int64) := fun z => c18 (lc_eq.mpr z)
      exact absurd c1 c18
    · have c18 : a0 = (0 : Int64) := lc_eq.mp c18
      refine lv_bipush (v := 116) hx hb dX6_sayOrder_24 (by decide) ?_
      refine lv_goto (tgt := 31) hx hb dX6_sayOrder_26 (by decide) ?_
      obtain ⟨h19, hs⟩ := hs
      obtain ⟨u20, hu20⟩ : ∃ z, z = f_X6_say (116 : Int32) u17.1 u17.2 := ⟨_, rfl⟩
      have hs := hs u20 hu20
      refine q_X6_say hx hb hml hown hts mM_RX6_189 ⟨Nat.le_of_ble_eq_true rfl, Nat.le_of_ble_eq_true rfl⟩ ⟨Nat.le_of_ble_eq_true rfl, Nat.le_of_ble_eq_true rfl⟩ hl.1 (Nat.le_of_ble_eq_true rfl) hS dX6_sayOrder_31 (fun _ h9 => fA_mono hS.1 h9) hi hK hP (116 : Int32) h19 u20 hu20 (fun H locs hP hS => ?_)
      refine lv_iconst (v := 0) hx hb dX6_sayOrder_34 (by decide) ?_
      refine lv_istore_n (lv' := [(3, .int (0 : Int32)), (0, .ref (ad 0)), (1, .long a0)]) hx hb dX6_sayOrder_35 rfl hl (by decide) rfl (fun ls hl => ?_)
      obtain ⟨h22, hs⟩ := hs
      obtain ⟨u21, hu21⟩ : ∃ z, z = L_X6_sayOrder_36 5 (0 : Int32) u20.1 u20.2 a0 := ⟨_, rfl⟩
      have hs := hs u21 hu21
      have hex23 : ∀ (H : Heap) (locs : List Loc) (ls : Array Slot), va_P (dC, dI) vwCl (wM ad cI cJ Th Ce Le De Ke Kc Ko Kl Kd Ug Ur Va To Tt Td Go Gg Ga Be Bt u21.2.1 u21.2.2 Bz Bk) H → va_S (fA 17 ad s.heap.size) s.heap H locs → lv_has ls 4 [(3, .int u21.1), (0, .ref (ad 0)), (1, .long a0)] → W p l e (headSpec (mW yX6_sayOrder cX6_sayOrder 4 none) { frames := 1, cells := 0, slots := 0, locals := 21 }).room s m ([.ref (ad 0), .long a0] : List Value).toArray below meth c H locs 0 0 Q9 (F0 m 55 ls []) := by
        intro H locs ls hP hS hl
        rw [hQ9]
        have hf : f_X6_sayOrder a0 Si Te = (u21.2.1, u21.2.2) := by simp only [f_X6_sayOrder, if_pos c1, ← hu17, ← hu20, ← hu21]
        exact W.vret hx hb hr (fun t ht hW => ⟨⟨(), rfl, True.intro, by rw [hf]; show va_P (dC, dI) vwCl _ t.heap; rw [ht]; exact hP⟩, hS.F ht⟩) hS.2.2 dX6_sayOrder_55
      have hlp24 : ∀ (n : Nat) (x3v : Int32) (Siv : Int32) (Tev : Nat → Int32) (H : Heap) (locs : List Loc) (ls : Array Slot), SL_X6_sayOrder_36 n x3v Siv Tev a0 → u21 = L_X6_sayOrder_36 n x3v Siv Tev a0 → va_P (dC, dI) vwCl (wM ad cI cJ Th Ce Le De Ke Kc Ko Kl Kd Ug Ur Va To Tt Td Go Gg Ga Be Bt Siv Tev Bz Bk) H → va_S (fA 17 ad s.heap.size) s.heap H locs → lv_has ls 4 [(3, .int x3v), (0, .ref (ad 0)), (1, .long a0)] → W p l e (headSpec (mW yX6_sayOrder cX6_sayOrder 4 none) { frames := 1, cells := 0, slots := 0, locals := 21 }).room s m ([.ref (ad 0), .long a0] : List Value).toArray below meth c H locs 0 0 Q9 (F0 m 36 ls []) := by
        intro n
        induction n with
        | zero => intro x3v Siv Tev H locs ls hs; rw [SL_X6_sayOrder_36] at hs; exact hs.elim
        | succ n ih =>
          intro x3v Siv Tev H locs ls hs hq25 hP hS hl
          rw [SL_X6_sayOrder_36] at hs
          refine lv_iload_n hx hb dX6_sayOrder_36 rfl (lv_at hl 0 rfl) ?_
          refine lv_i2l hx hb dX6_sayOrder_37 rfl ?_
          refine lv_lload_n hx hb dX6_sayOrder_38 rfl (lv_at hl 2 rfl) ?_
          refine W.lcmp hx hb dX6_sayOrder_39 ?_
          refine lv_if_ge (tgt := 55) hx hb dX6_sayOrder_40 (by decide) (fun c26 => ?_) (fun c26 => ?_)
          · have c26 : a0 ≤ x3v.toInt64 := lc_ge.mp c26
            have hs := hs.1 c26
            have he27 : u21 = (x3v, Siv, Tev) := by rw [hq25, L_X6_sayOrder_36]; simp only [if_pos c26, ↓reduceIte]
            exact hex23 _ _ _ (by first | exact hP | (rw [he27]; exact hP)) hS (by first | exact lv_sub hl [0, 1, 2] rfl | (rw [he27]; exact lv_sub hl [0, 1, 2] rfl))
          · have c26 : ¬ a0 ≤ x3v.toInt64 := fun z => c26 (lc_ge.mpr z)
            have hs := hs.2 c26
            refine lv_aload_n hx hb dX6_sayOrder_43 rfl (lv_at hl 1 rfl) ?_
            refine lv_bipush (v := 108) hx hb dX6_sayOrder_44 (by decide) ?_
            obtain ⟨h28, hs⟩ := hs
            obtain ⟨u29, hu29⟩ : ∃ z, z = f_X6_say (108 : Int32) Siv Tev := ⟨_, rfl⟩
            have hs := hs u29 hu29
            refine q_X6_say hx hb hml hown hts mM_RX6_189 ⟨Nat.le_of_ble_eq_true rfl, Nat.le_of_ble_eq_true rfl⟩ ⟨Nat.le_of_ble_eq_true rfl, Nat.le_of_ble_eq_true rfl⟩ hl.1 (Nat.le_of_ble_eq_true rfl) hS dX6_sayOrder_46 (fun _ h9 => fA_mono hS.1 h9) hi hK hP (108 : Int32) h28 u29 hu29 (fun H locs hP hS => ?_)
            refine lv_iinc (v := (x3v + 1)) (lv' := [(3, .int (x3v + 1)), (0, .ref (ad 0)), (1, .long a0)]) hx hb dX6_sayOrder_49 hl (k := 0) rfl rfl (by decide) rfl (fun ls hl => ?_)
            refine lv_goto (tgt := 36) hx hb dX6_sayOrder_52 (by decide) ?_
            exact ih (x3v + 1) u29.1 u29.2 _ _ _ hs (by rw [hq25, L_X6_sayOrder_36]; simp only [if_neg c26, ← hu29, ↓reduceIte]) hP hS (lv_sub hl [0, 1, 2] rfl)
      exact hlp24 5 (0 : Int32) u20.1 u20.2 _ _ _ h22 hu21 hP hS (lv_sub hl [0, 1, 2] rfl)
theorem q_X6_sayOrder {p : Program} {l : Launch} {e : Env} {R : Room} {s : State} {m : MethodId} {args : Array Value} {below : List Frame} {meth : Method} {c : Code} {H : Heap} {locs : List Loc} {cells slots : Nat} {Q : State → Prop} {pc : Nat} {ls : Array Slot} {rest : List Value} {cc : ByteArray} {nL idx : Nat} {own : String} {A0 : Nat → Prop} {dC : Nat → ClassId} {dI : Nat → Nat → Nat} {cI cJ : ClassId} {ad : Nat → Nat} {Th : Int32} {Ce : Nat → Int64} {Le : Nat → Int32} {De : Int32} {Ke : Int32} {Kc : Nat → Int64} {Ko : Nat → Int32} {Kl : Nat → Int32} {Kd : Nat → Int32} {Ug : Nat → Int64} {Ur : Nat → Int64} {Va : Nat → Int64} {To : Int32} {Tt : Nat → Int32} {Td : Nat → Int32} {Go : Int32} {Gg : Nat → Int32} {Ga : Nat → Int32} {Be : Int32} {Bt : Nat → Int32} {Si : Int32} {Te : Nat → Int32} {Bz : Int32} {Bk : Nat → Int32} (hx : p.tables.exec = Jvm.exec) (hb : c.code = cc) (hml : c.maxLocals = nL) (hown : s.vm.findClass own = some m.cls) (hts : ∀ w ∈ bigW, w.before args s = true) (hlk : Cond.methodLink own idx yX6_sayOrder ∈ bigW) (hR : 2 ≤ R.frames ∧ 44 ≤ R.locals) (hf : cells + 0 ≤ R.cells ∧ slots + 0 ≤ R.slots) (hz : ls.size = nL) (hw : (rest.map fun v => v.category).sum ≤ 8) (hS : va_S A0 s.heap H locs) (hd : decode cc pc = .ok (.invokevirtual idx, 3)) (hA : ∀ q, fA 17 ad H.size q → A0 q) (hi : fI 17 ad) (hK : va_K (dC, dI) vwCl [(cI, .int), (cJ, .long)] s) (hP : va_P (dC, dI) vwCl (wM ad cI cJ Th Ce Le De Ke Kc Ko Kl Kd Ug Ur Va To Tt Td Go Gg Ga Be Bt Si Te Bz Bk) H) (a0 : Int64) (hs : S_X6_sayOrder a0 Si Te)  (u : Int32 × (Nat → Int32)) (hu : u = f_X6_sayOrder a0 Si Te) (k : ∀ (H1 : Heap) (locs1 : List Loc), va_P (dC, dI) vwCl (wM ad cI cJ Th Ce Le De Ke Kc Ko Kl Kd Ug Ur Va To Tt Td Go Gg Ga Be Bt u.1 u.2 Bz Bk) H1 → va_S A0 s.heap H1 locs1 → W p l e R s m args below meth c H1 locs1 (cells + 0) (slots + 0) Q (F0 m (pc + 3) ls (rest))) : W p l e R s m args below meth c H locs cells slots Q (F0 m pc ls (.long a0 :: .ref (ad 0) :: rest)) := by
  subst hu
  exact va_callv (va_runV (As := [.long a0]) (rest := rest) ⟨hx, hb, hml, hown, hts⟩ (c_X6_sayOrder l dC dI cI cJ ad hi H.size Th Ce Le De Ke Kc Ko Kl Kd Ug Ur Va To Tt Td Go Gg Ga Be Bt Si Te Bz Bk a0 hs) (kV 1 hts hlk mI_X6_sayOrder mN_RX6 mY_X6_sayOrder mV_X6_sayOrder rfl rfl (by decide +kernel) hR) ⟨fun a U g mk q => ⟨q.1, q.2.1, q.2.2.1, va_K.moved (u := U) (U := U.calling g mk a) (Vm.Alike.refl U.vm) q.2.2.2⟩, va_recv hK hP (ci := 8) (q0 := 0) rfl rfl, fun U hU hW => ⟨rfl, by rw [hU], by rw [hU]; exact hP, va_K.moved hW.alike hK⟩⟩ rfl rfl hz rfl (lv_room hw) hd hf) hS (fun q _ h => hA q h) (fun q h => hA q h) (fun u t H1 locs1 ht hvm hw9 hB hz1 hk1 hS1 => by
    skip
    exact k H1 locs1 (by rw [← ht]; exact hB) hS1)

def f_X6_sayWord (a0 : Int32) (Si : Int32) (Te : Nat → Int32) : Int32 × (Nat → Int32) := (let u2 := f_X6_say (32 : Int32) Si Te; (if a0 = 0 then (let u5 := f_X6_say (109 : Int32) u2.1 u2.2; (let u8 := f_X6_say (105 : Int32) u5.1 u5.2; (let u11 := f_X6_say (110 : Int32) u8.1 u8.2; (let u14 := f_X6_say (117 : Int32) u11.1 u11.2; (let u17 := f_X6_say (115 : Int32) u14.1 u14.2; (let u19 := f_X6_say (32 : Int32) u17.1 u17.2; (u19.1, u19.2))))))) else (let u21 := f_X6_say (112 : Int32) u2.1 u2.2; (let u24 := f_X6_say (108 : Int32) u21.1 u21.2; (let u27 := f_X6_say (117 : Int32) u24.1 u24.2; (let u30 := f_X6_say (115 : Int32) u27.1 u27.2; (let u33 := f_X6_say (32 : Int32) u30.1 u30.2; (u33.1, u33.2))))))))
def S_X6_sayWord (a0 : Int32) (Si : Int32) (Te : Nat → Int32) : Prop := (S_X6_say (32 : Int32) Si Te) ∧ (∀ u2, u2 = f_X6_say (32 : Int32) Si Te → ((a0 = 0 → ((S_X6_say (109 : Int32) u2.1 u2.2) ∧ (∀ u5, u5 = f_X6_say (109 : Int32) u2.1 u2.2 → ((S_X6_say (105 : Int32) u5.1 u5.2) ∧ (∀ u8, u8 = f_X6_say (105 : Int32) u5.1 u5.2 → ((S_X6_say (110 : Int32) u8.1 u8.2) ∧ (∀ u11, u11 = f_X6_say (110 : Int32) u8.1 u8.2 → ((S_X6_say (117 : Int32) u11.1 u11.2) ∧ (∀ u14, u14 = f_X6_say (117 : Int32) u11.1 u11.2 → ((S_X6_say (115 : Int32) u14.1 u14.2) ∧ (∀ u17, u17 = f_X6_say (115 : Int32) u14.1 u14.2 → ((S_X6_say (32 : Int32) u17.1 u17.2) ∧ (∀ u19, u19 = f_X6_say (32 : Int32) u17.1 u17.2 → (True)))))))))))))) ∧ (¬ a0 = 0 → ((S_X6_say (112 : Int32) u2.1 u2.2) ∧ (∀ u21, u21 = f_X6_say (112 : Int32) u2.1 u2.2 → ((S_X6_say (108 : Int32) u21.1 u21.2) ∧ (∀ u24, u24 = f_X6_say (108 : Int32) u21.1 u21.2 → ((S_X6_say (117 : Int32) u24.1 u24.2) ∧ (∀ u27, u27 = f_X6_say (117 : Int32) u24.1 u24.2 → ((S_X6_say (115 : Int32) u27.1 u27.2) ∧ (∀ u30, u30 = f_X6_say (115 : Int32) u27.1 u27.2 → ((S_X6_say (32 : Int32) u30.1 u30.2) ∧ (∀ u33, u33 = f_X6_say (32 : Int32) u30.1 u30.2 → (True))))))))))))))
set_option maxHeartbeats 4000000 in
set_option maxRecDepth 100000 in
theorem c_X6_sayWord (l : Launch) (dC : Nat → ClassId) (dI : Nat → Nat → Nat) (cI cJ : ClassId) (ad : Nat → Nat) (hi : fI 17 ad) (sz : Nat) (Th : Int32) (Ce : Nat → Int64) (Le : Nat → Int32) (De : Int32) (Ke : Int32) (Kc : Nat → Int64) (Ko : Nat → Int32) (Kl : Nat → Int32) (Kd : Nat → Int32) (Ug : Nat → Int64) (Ur : Nat → Int64) (Va : Nat → Int64) (To : Int32) (Tt : Nat → Int32) (Td : Nat → Int32) (Go : Int32) (Gg : Nat → Int32) (Ga : Nat → Int32) (Be : Int32) (Bt : Nat → Int32) (Si : Int32) (Te : Nat → Int32) (Bz : Int32) (Bk : Nat → Int32) (a0 : Int32) (hs : S_X6_sayWord a0 Si Te) : Met l yX6_sayWord (mW yX6_sayWord cX6_sayWord 2 none) { frames := 1, cells := 0, slots := 0, locals := 21 } (va_Pc [.ref (ad 0), .int a0] (fun U => U.heap.size = sz ∧ va_P (dC, dI) vwCl (wM ad cI cJ Th Ce Le De Ke Kc Ko Kl Kd Ug Ur Va To Tt Td Go Gg Ga Be Bt Si Te Bz Bk) U.heap ∧ va_K (dC, dI) vwCl [(cI, .int), (cJ, .long)] U)) (va_Qv (fun (_ : Unit) => True) (fun _ t => va_P (dC, dI) vwCl (wM ad cI cJ Th Ce Le De Ke Kc Ko Kl Kd Ug Ur Va To Tt Td Go Gg Ga Be Bt ((f_X6_sayWord a0 Si Te).1) ((f_X6_sayWord a0 Si Te).2) Bz Bk) t.heap) (fA 17 ad sz)) 0 0 (fA 17 ad sz) := by
  refine Met.ofW (cc := cX6_sayWord) (maxL := 2) (ret := none) (by decide) rfl ?_
  intro p e s m args below meth c s₁ B hml hv
  obtain ⟨rfl, hsz, hP, hK⟩ := hv
  have hx := B.exec
  have hb := B.bytes
  have hr := B.returns
  have hts := mW_hts (atoms_spec (ws := (mW yX6_sayWord cX6_sayWord 2 none)) B.pre)
  have hown : s.vm.findClass RX6 = some m.cls := findClass_of_methodNamed B.named
  have hlocks := B.notSynchronized
  subst hsz
  have hA : ∀ (n : Nat) (q : Nat), s.heap.size ≤ n → n ≤ q → fA 17 ad s.heap.size q := fun n q h1 h2 => Or.inr (Nat.le_trans h1 h2)
  have hS : va_S (fA 17 ad s.heap.size) s.heap s.heap [] := va_S.rf
  have hA : ∀ q, s.heap.size ≤ q → (fA 17 ad s.heap.size) q := fun q h => Or.inr h
  unfold S_X6_sayWord at hs
  have hl := lv_entry ([.ref (ad 0), .int a0]) (n := 2) (Nat.le_of_ble_eq_true rfl)
  rw [lg_entry_eq]
  generalize (lg_sl ([.ref (ad 0), .int a0]) ++ List.replicate (2 - (lg_sl ([.ref (ad 0), .int a0])).length) Slot.unset).toArray = ls at hl ⊢
  have hl : lv_has ls 2 [(0, .ref (ad 0)), (1, .int a0)] := hl
  refine W_gen (fun Q9 hQ9 => ?_)
  refine lv_aload_n hx hb dX6_sayWord_0 rfl (lv_at hl 0 rfl) ?_
  refine lv_bipush (v := 32) hx hb dX6_sayWord_1 (by decide) ?_
  obtain ⟨h1, hs⟩ := hs
  obtain ⟨u2, hu2⟩ : ∃ z, z = f_X6_say (32 : Int32) Si Te := ⟨_, rfl⟩
  have hs := hs u2 hu2
  refine q_X6_say hx hb hml hown hts mM_RX6_189 ⟨Nat.le_of_ble_eq_true rfl, Nat.le_of_ble_eq_true rfl⟩ ⟨Nat.le_of_ble_eq_true rfl, Nat.le_of_ble_eq_true rfl⟩ hl.1 (Nat.le_of_ble_eq_true rfl) hS dX6_sayWord_3 (fun _ h9 => fA_mono hS.1 h9) hi hK hP (32 : Int32) h1 u2 hu2 (fun H locs hP hS => ?_)
  refine lv_aload_n hx hb dX6_sayWord_6 rfl (lv_at hl 0 rfl) ?_
  refine lv_iload_n hx hb dX6_sayWord_7 rfl (lv_at hl 1 rfl) ?_
  refine lv_if_eq (tgt := 16) hx hb dX6_sayWord_8 (by decide) (fun c3 => ?_) (fun c3 => ?_)
  · have hs := hs.1 c3
    refine lv_bipush (v := 109) hx hb dX6_sayWord_16 (by decide) ?_
    obtain ⟨h4, hs⟩ := hs
    obtain ⟨u5, hu5⟩ : ∃ z, z = f_X6_say (109 : Int32) u2.1 u2.2 := ⟨_, rfl⟩
    have hs := hs u5 hu5
    refine q_X6_say hx hb hml hown hts mM_RX6_189 ⟨Nat.le_of_ble_eq_true rfl, Nat.le_of_ble_eq_true rfl⟩ ⟨Nat.le_of_ble_eq_true rfl, Nat.le_of_ble_eq_true rfl⟩ hl.1 (Nat.le_of_ble_eq_true rfl) hS dX6_sayWord_18 (fun _ h9 => fA_mono hS.1 h9) hi hK hP (109 : Int32) h4 u5 hu5 (fun H locs hP hS => ?_)
    refine lv_aload_n hx hb dX6_sayWord_21 rfl (lv_at hl 0 rfl) ?_
    refine lv_iload_n hx hb dX6_sayWord_22 rfl (lv_at hl 1 rfl) ?_
    refine lv_if_eq (tgt := 31) hx hb dX6_sayWord_23 (by decide) (fun c6 => ?_) (fun c6 => ?_)
    · refine lv_bipush (v := 105) hx hb dX6_sayWord_31 (by decide) ?_
      obtain ⟨h7, hs⟩ := hs
      obtain ⟨u8, hu8⟩ : ∃ z, z = f_X6_say (105 : Int32) u5.1 u5.2 := ⟨_, rfl⟩
      have hs := hs u8 hu8
      refine q_X6_say hx hb hml hown hts mM_RX6_189 ⟨Nat.le_of_ble_eq_true rfl, Nat.le_of_ble_eq_true rfl⟩ ⟨Nat.le_of_ble_eq_true rfl, Nat.le_of_ble_eq_true rfl⟩ hl.1 (Nat.le_of_ble_eq_true rfl) hS dX6_sayWord_33 (fun _ h9 => fA_mono hS.1 h9) hi hK hP (105 : Int32) h7 u8 hu8 (fun H locs hP hS => ?_)
      refine lv_aload_n hx hb dX6_sayWord_36 rfl (lv_at hl 0 rfl) ?_
      refine lv_iload_n hx hb dX6_sayWord_37 rfl (lv_at hl 1 rfl) ?_
      refine lv_if_eq (tgt := 46) hx hb dX6_sayWord_38 (by decide) (fun c9 => ?_) (fun c9 => ?_)
      · refine lv_bipush (v := 110) hx hb dX6_sayWord_46 (by decide) ?_
        obtain ⟨h10, hs⟩ := hs
        obtain ⟨u11, hu11⟩ : ∃ z, z = f_X6_say (110 : Int32) u8.1 u8.2 := ⟨_, rfl⟩
        have hs := hs u11 hu11
        refine q_X6_say hx hb hml hown hts mM_RX6_189 ⟨Nat.le_of_ble_eq_true rfl, Nat.le_of_ble_eq_true rfl⟩ ⟨Nat.le_of_ble_eq_true rfl, Nat.le_of_ble_eq_true rfl⟩ hl.1 (Nat.le_of_ble_eq_true rfl) hS dX6_sayWord_48 (fun _ h9 => fA_mono hS.1 h9) hi hK hP (110 : Int32) h10 u11 hu11 (fun H locs hP hS => ?_)
        refine lv_aload_n hx hb dX6_sayWord_51 rfl (lv_at hl 0 rfl) ?_
        refine lv_iload_n hx hb dX6_sayWord_52 rfl (lv_at hl 1 rfl) ?_
        refine lv_if_eq (tgt := 61) hx hb dX6_sayWord_53 (by decide) (fun c12 => ?_) (fun c12 => ?_)
        · refine lv_bipush (v := 117) hx hb dX6_sayWord_61 (by decide) ?_
          obtain ⟨h13, hs⟩ := hs
          obtain ⟨u14, hu14⟩ : ∃ z, z = f_X6_say (117 : Int32) u11.1 u11.2 := ⟨_, rfl⟩
          have hs := hs u14 hu14
          refine q_X6_say hx hb hml hown hts mM_RX6_189 ⟨Nat.le_of_ble_eq_true rfl, Nat.le_of_ble_eq_true rfl⟩ ⟨Nat.le_of_ble_eq_true rfl, Nat.le_of_ble_eq_true rfl⟩ hl.1 (Nat.le_of_ble_eq_true rfl) hS dX6_sayWord_63 (fun _ h9 => fA_mono hS.1 h9) hi hK hP (117 : Int32) h13 u14 hu14 (fun H locs hP hS => ?_)
          refine lv_iload_n hx hb dX6_sayWord_66 rfl (lv_at hl 1 rfl) ?_
          refine lv_if_ne (tgt := 76) hx hb dX6_sayWord_67 (by decide) (fun c15 => ?_) (fun c15 => ?_)
          · exact absurd c12 c15
          · refine lv_aload_n hx hb dX6_sayWord_70 rfl (lv_at hl 0 rfl) ?_
            refine lv_bipush (v := 115) hx hb dX6_sayWord_71 (by decide) ?_
            obtain ⟨h16, hs⟩ := hs
            obtain ⟨u17, hu17⟩ : ∃ z, z = f_X6_say (115 : Int32) u14.1 u14.2 := ⟨_, rfl⟩
            have hs := hs u17 hu17
            refine q_X6_say hx hb hml hown hts mM_RX6_189 ⟨Nat.le_of_ble_eq_true rfl, Nat.le_of_ble_eq_true rfl⟩ ⟨Nat.le_of_ble_eq_true rfl, Nat.le_of_ble_eq_true rfl⟩ hl.1 (Nat.le_of_ble_eq_true rfl) hS dX6_sayWord_73 (fun _ h9 => fA_mono hS.1 h9) hi hK hP (115 : Int32) h16 u17 hu17 (fun H locs hP hS => ?_)
            refine lv_aload_n hx hb dX6_sayWord_76 rfl (lv_at hl 0 rfl) ?_
            refine lv_bipush (v := 32) hx hb dX6_sayWord_77 (by decide) ?_
            obtain ⟨h18, hs⟩ := hs
            obtain ⟨u19, hu19⟩ : ∃ z, z = f_X6_say (32 : Int32) u17.1 u17.2 := ⟨_, rfl⟩
            have hs := hs u19 hu19
            refine q_X6_say hx hb hml hown hts mM_RX6_189 ⟨Nat.le_of_ble_eq_true rfl, Nat.le_of_ble_eq_true rfl⟩ ⟨Nat.le_of_ble_eq_true rfl, Nat.le_of_ble_eq_true rfl⟩ hl.1 (Nat.le_of_ble_eq_true rfl) hS dX6_sayWord_79 (fun _ h9 => fA_mono hS.1 h9) hi hK hP (32 : Int32) h18 u19 hu19 (fun H locs hP hS => ?_)
            rw [hQ9]
            have hf : f_X6_sayWord a0 Si Te = (u19.1, u19.2) := by simp only [f_X6_sayWord, ← hu2, if_pos c3, ← hu5, ← hu8, ← hu11, ← hu14, ← hu17, ← hu19]
            exact W.vret hx hb hr (fun t ht hW => ⟨⟨(), rfl, True.intro, by rw [hf]; show va_P (dC, dI) vwCl _ t.heap; rw [ht]; exact hP⟩, hS.F ht⟩) hS.2.2 dX6_sayWord_82
        · exact absurd c9 c12
      · exact absurd c6 c9
    · exact absurd c3 c6
  · have hs := hs.2 c3
    refine lv_bipush (v := 112) hx hb dX6_sayWord_11 (by decide) ?_
    refine lv_goto (tgt := 18) hx hb dX6_sayWord_13 (by decide) ?_
    obtain ⟨h20, hs⟩ := hs
    obtain ⟨u21, hu21⟩ : ∃ z, z = f_X6_say (112 : Int32) u2.1 u2.2 := ⟨_, rfl⟩
    have hs := hs u21 hu21
    refine q_X6_say hx hb hml hown hts mM_RX6_189 ⟨Nat.le_of_ble_eq_true rfl, Nat.le_of_ble_eq_true rfl⟩ ⟨Nat.le_of_ble_eq_true rfl, Nat.le_of_ble_eq_true rfl⟩ hl.1 (Nat.le_of_ble_eq_true rfl) hS dX6_sayWord_18 (fun _ h9 => fA_mono hS.1 h9) hi hK hP (112 : Int32) h20 u21 hu21 (fun H locs hP hS => ?_)
    refine lv_aload_n hx hb dX6_sayWord_21 rfl (lv_at hl 0 rfl) ?_
    refine lv_iload_n hx hb dX6_sayWord_22 rfl (lv_at hl 1 rfl) ?_
    refine lv_if_eq (tgt := 31) hx hb dX6_sayWord_23 (by decide) (fun c22 => ?_) (fun c22 => ?_)
    · exact absurd c22 c3
    · refine lv_bipush (v := 108) hx hb dX6_sayWord_26 (by decide) ?_
      refine lv_goto (tgt := 33) hx hb dX6_sayWord_28 (by decide) ?_
      obtain ⟨h23, hs⟩ := hs
      obtain ⟨u24, hu24⟩ : ∃ z, z = f_X6_say (108 : Int32) u21.1 u21.2 := ⟨_, rfl⟩
      have hs := hs u24 hu24
      refine q_X6_say hx hb hml hown hts mM_RX6_189 ⟨Nat.le_of_ble_eq_true rfl, Nat.le_of_ble_eq_true rfl⟩ ⟨Nat.le_of_ble_eq_true rfl, Nat.le_of_ble_eq_true rfl⟩ hl.1 (Nat.le_of_ble_eq_true rfl) hS dX6_sayWord_33 (fun _ h9 => fA_mono hS.1 h9) hi hK hP (108 : Int32) h23 u24 hu24 (fun H locs hP hS => ?_)
      refine lv_aload_n hx hb dX6_sayWord_36 rfl (lv_at hl 0 rfl) ?_
      refine lv_iload_n hx hb dX6_sayWord_37 rfl (lv_at hl 1 rfl) ?_
      refine lv_if_eq (tgt := 46) hx hb dX6_sayWord_38 (by decide) (fun c25 => ?_) (fun c25 => ?_)
      · exact absurd c25 c22
      · refine lv_bipush (v := 117) hx hb dX6_sayWord_41 (by decide) ?_
        refine lv_goto (tgt := 48) hx hb dX6_sayWord_43 (by decide) ?_
        obtain ⟨h26, hs⟩ := hs
        obtain ⟨u27, hu27⟩ : ∃ z, z = f_X6_say (117 : Int32) u24.1 u24.2 := ⟨_, rfl⟩
        have hs := hs u27 hu27
        refine q_X6_say hx hb hml hown hts mM_RX6_189 ⟨Nat.le_of_ble_eq_true rfl, Nat.le_of_ble_eq_true rfl⟩ ⟨Nat.le_of_ble_eq_true rfl, Nat.le_of_ble_eq_true rfl⟩ hl.1 (Nat.le_of_ble_eq_true rfl) hS dX6_sayWord_48 (fun _ h9 => fA_mono hS.1 h9) hi hK hP (117 : Int32) h26 u27 hu27 (fun H locs hP hS => ?_)
        refine lv_aload_n hx hb dX6_sayWord_51 rfl (lv_at hl 0 rfl) ?_
        refine lv_iload_n hx hb dX6_sayWord_52 rfl (lv_at hl 1 rfl) ?_
        refine lv_if_eq (tgt := 61) hx hb dX6_sayWord_53 (by decide) (fun c28 => ?_) (fun c28 => ?_)
        · exact absurd c28 c25
        · refine lv_bipush (v := 115) hx hb dX6_sayWord_56 (by decide) ?_
          refine lv_goto (tgt := 63) hx hb dX6_sayWord_58 (by decide) ?_
          obtain ⟨h29, hs⟩ := hs
          obtain ⟨u30, hu30⟩ : ∃ z, z = f_X6_say (115 : Int32) u27.1 u27.2 := ⟨_, rfl⟩
          have hs := hs u30 hu30
          refine q_X6_say hx hb hml hown hts mM_RX6_189 ⟨Nat.le_of_ble_eq_true rfl, Nat.le_of_ble_eq_true rfl⟩ ⟨Nat.le_of_ble_eq_true rfl, Nat.le_of_ble_eq_true rfl⟩ hl.1 (Nat.le_of_ble_eq_true rfl) hS dX6_sayWord_63 (fun _ h9 => fA_mono hS.1 h9) hi hK hP (115 : Int32) h29 u30 hu30 (fun H locs hP hS => ?_)
          refine lv_iload_n hx hb dX6_sayWord_66 rfl (lv_at hl 1 rfl) ?_
          refine lv_if_ne (tgt := 76) hx hb dX6_sayWord_67 (by decide) (fun c31 => ?_) (fun c31 => ?_)
          · refine lv_aload_n hx hb dX6_sayWord_76 rfl (lv_at hl 0 rfl) ?_
            refine lv_bipush (v := 32) hx hb dX6_sayWord_77 (by decide) ?_
            obtain ⟨h32, hs⟩ := hs
            obtain ⟨u33, hu33⟩ : ∃ z, z = f_X6_say (32 : Int32) u30.1 u30.2 := ⟨_, rfl⟩
            have hs := hs u33 hu33
            refine q_X6_say hx hb hml hown hts mM_RX6_189 ⟨Nat.le_of_ble_eq_true rfl, Nat.le_of_ble_eq_true rfl⟩ ⟨Nat.le_of_ble_eq_true rfl, Nat.le_of_ble_eq_true rfl⟩ hl.1 (Nat.le_of_ble_eq_true rfl) hS dX6_sayWord_79 (fun _ h9 => fA_mono hS.1 h9) hi hK hP (32 : Int32) h32 u33 hu33 (fun H locs hP hS => ?_)
            rw [hQ9]
            have hf : f_X6_sayWord a0 Si Te = (u33.1, u33.2) := by simp only [f_X6_sayWord, ← hu2, if_neg c3, ← hu21, ← hu24, ← hu27, ← hu30, ← hu33]
            exact W.vret hx hb hr (fun t ht hW => ⟨⟨(), rfl, True.intro, by rw [hf]; show va_P (dC, dI) vwCl _ t.heap; rw [ht]; exact hP⟩, hS.F ht⟩) hS.2.2 dX6_sayWord_82
          · exact absurd c31 c28
theorem q_X6_sayWord {p : Program} {l : Launch} {e : Env} {R : Room} {s : State} {m : MethodId} {args : Array Value} {below : List Frame} {meth : Method} {c : Code} {H : Heap} {locs : List Loc} {cells slots : Nat} {Q : State → Prop} {pc : Nat} {ls : Array Slot} {rest : List Value} {cc : ByteArray} {nL idx : Nat} {own : String} {A0 : Nat → Prop} {dC : Nat → ClassId} {dI : Nat → Nat → Nat} {cI cJ : ClassId} {ad : Nat → Nat} {Th : Int32} {Ce : Nat → Int64} {Le : Nat → Int32} {De : Int32} {Ke : Int32} {Kc : Nat → Int64} {Ko : Nat → Int32} {Kl : Nat → Int32} {Kd : Nat → Int32} {Ug : Nat → Int64} {Ur : Nat → Int64} {Va : Nat → Int64} {To : Int32} {Tt : Nat → Int32} {Td : Nat → Int32} {Go : Int32} {Gg : Nat → Int32} {Ga : Nat → Int32} {Be : Int32} {Bt : Nat → Int32} {Si : Int32} {Te : Nat → Int32} {Bz : Int32} {Bk : Nat → Int32} (hx : p.tables.exec = Jvm.exec) (hb : c.code = cc) (hml : c.maxLocals = nL) (hown : s.vm.findClass own = some m.cls) (hts : ∀ w ∈ bigW, w.before args s = true) (hlk : Cond.methodLink own idx yX6_sayWord ∈ bigW) (hR : 2 ≤ R.frames ∧ 42 ≤ R.locals) (hf : cells + 0 ≤ R.cells ∧ slots + 0 ≤ R.slots) (hz : ls.size = nL) (hw : (rest.map fun v => v.category).sum ≤ 8) (hS : va_S A0 s.heap H locs) (hd : decode cc pc = .ok (.invokevirtual idx, 3)) (hA : ∀ q, fA 17 ad H.size q → A0 q) (hi : fI 17 ad) (hK : va_K (dC, dI) vwCl [(cI, .int), (cJ, .long)] s) (hP : va_P (dC, dI) vwCl (wM ad cI cJ Th Ce Le De Ke Kc Ko Kl Kd Ug Ur Va To Tt Td Go Gg Ga Be Bt Si Te Bz Bk) H) (a0 : Int32) (hs : S_X6_sayWord a0 Si Te)  (u : Int32 × (Nat → Int32)) (hu : u = f_X6_sayWord a0 Si Te) (k : ∀ (H1 : Heap) (locs1 : List Loc), va_P (dC, dI) vwCl (wM ad cI cJ Th Ce Le De Ke Kc Ko Kl Kd Ug Ur Va To Tt Td Go Gg Ga Be Bt u.1 u.2 Bz Bk) H1 → va_S A0 s.heap H1 locs1 → W p l e R s m args below meth c H1 locs1 (cells + 0) (slots + 0) Q (F0 m (pc + 3) ls (rest))) : W p l e R s m args below meth c H locs cells slots Q (F0 m pc ls (.int a0 :: .ref (ad 0) :: rest)) := by
  subst hu
  exact va_callv (va_runV (As := [.int a0]) (rest := rest) ⟨hx, hb, hml, hown, hts⟩ (c_X6_sayWord l dC dI cI cJ ad hi H.size Th Ce Le De Ke Kc Ko Kl Kd Ug Ur Va To Tt Td Go Gg Ga Be Bt Si Te Bz Bk a0 hs) (kV 1 hts hlk mI_X6_sayWord mN_RX6 mY_X6_sayWord mV_X6_sayWord rfl rfl (by decide +kernel) hR) ⟨fun a U g mk q => ⟨q.1, q.2.1, q.2.2.1, va_K.moved (u := U) (U := U.calling g mk a) (Vm.Alike.refl U.vm) q.2.2.2⟩, va_recv hK hP (ci := 8) (q0 := 0) rfl rfl, fun U hU hW => ⟨rfl, by rw [hU], by rw [hU]; exact hP, va_K.moved hW.alike hK⟩⟩ rfl rfl hz rfl (lv_room hw) hd hf) hS (fun q _ h => hA q h) (fun q h => hA q h) (fun u t H1 locs1 ht hvm hw9 hB hz1 hk1 hS1 => by
    skip
    exact k H1 locs1 (by rw [← ht]; exact hB) hS1)

def L_X6_sayGlue_17 : Nat → Int32 → Int32 → (Nat → Int32) → Int32 → (Nat → Int32) → Int32 → (Nat → Int64) → Int32 × Int32 × (Nat → Int32) × Int32 × (Nat → Int32)
  | 0, x2, Si, Te, Bz, Bk, x1, Ce => (x2, Si, Te, Bz, Bk)
  | n + 1, x2, Si, Te, Bz, Bk, x1, Ce => (if (4 : Int32) ≤ x2 then (x2, Si, Te, Bz, Bk) else (if (Ce (x1 + x2).toNatClampNeg) = (0 : Int64) then L_X6_sayGlue_17 n (x2 + 2) Si Te Bz Bk x1 Ce else (if x2 = (1 : Int32) then (let u19 := f_X6_sayWord (1 : Int32) Si Te; (let u22 := f_X6_sayLength (Ce (x1 + x2).toNatClampNeg) u19.1 u19.2 Bz Bk; (let u25 := f_X6_sayOrder (Ce ((x1 + x2) + (1 : Int32)).toNatClampNeg) u22.1 u22.2.1; L_X6_sayGlue_17 n (x2 + 2) u25.1 u25.2 u22.2.2.1 u22.2.2.2 x1 Ce))) else (let u11 := f_X6_sayWord (0 : Int32) Si Te; (let u14 := f_X6_sayLength (Ce (x1 + x2).toNatClampNeg) u11.1 u11.2 Bz Bk; (let u17 := f_X6_sayOrder (Ce ((x1 + x2) + (1 : Int32)).toNatClampNeg) u14.1 u14.2.1; L_X6_sayGlue_17 n (x2 + 2) u17.1 u17.2 u14.2.2.1 u14.2.2.2 x1 Ce))))))
def SL_X6_sayGlue_17 : Nat → Int32 → Int32 → (Nat → Int32) → Int32 → (Nat → Int32) → Int32 → (Nat → Int64) → Prop
  | 0, _, _, _, _, _, _, _ => False
  | n + 1, x2, Si, Te, Bz, Bk, x1, Ce => ((4 : Int32) ≤ x2 → (True)) ∧ (¬ (4 : Int32) ≤ x2 → ((vp_in (x1 + x2) 3360) ∧ (((Ce (x1 + x2).toNatClampNeg) = (0 : Int64) → (SL_X6_sayGlue_17 n (x2 + 2) Si Te Bz Bk x1 Ce)) ∧ (¬ (Ce (x1 + x2).toNatClampNeg) = (0 : Int64) → ((x2 = (1 : Int32) → ((S_X6_sayWord (1 : Int32) Si Te) ∧ (∀ u19, u19 = f_X6_sayWord (1 : Int32) Si Te → ((vp_in (x1 + x2) 3360) ∧ ((S_X6_sayLength (Ce (x1 + x2).toNatClampNeg) u19.1 u19.2 Bz Bk) ∧ (∀ u22, u22 = f_X6_sayLength (Ce (x1 + x2).toNatClampNeg) u19.1 u19.2 Bz Bk → ((vp_in ((x1 + x2) + (1 : Int32)) 3360) ∧ ((S_X6_sayOrder (Ce ((x1 + x2) + (1 : Int32)).toNatClampNeg) u22.1 u22.2.1) ∧ (∀ u25, u25 = f_X6_sayOrder (Ce ((x1 + x2) + (1 : Int32)).toNatClampNeg) u22.1 u22.2.1 → (SL_X6_sayGlue_17 n (x2 + 2) u25.1 u25.2 u22.2.2.1 u22.2.2.2 x1 Ce)))))))))) ∧ (¬ x2 = (1 : Int32) → ((S_X6_sayWord (0 : Int32) Si Te) ∧ (∀ u11, u11 = f_X6_sayWord (0 : Int32) Si Te → ((vp_in (x1 + x2) 3360) ∧ ((S_X6_sayLength (Ce (x1 + x2).toNatClampNeg) u11.1 u11.2 Bz Bk) ∧ (∀ u14, u14 = f_X6_sayLength (Ce (x1 + x2).toNatClampNeg) u11.1 u11.2 Bz Bk → ((vp_in ((x1 + x2) + (1 : Int32)) 3360) ∧ ((S_X6_sayOrder (Ce ((x1 + x2) + (1 : Int32)).toNatClampNeg) u14.1 u14.2.1) ∧ (∀ u17, u17 = f_X6_sayOrder (Ce ((x1 + x2) + (1 : Int32)).toNatClampNeg) u14.1 u14.2.1 → (SL_X6_sayGlue_17 n (x2 + 2) u17.1 u17.2 u14.2.2.1 u14.2.2.2 x1 Ce)))))))))))))))
def f_X6_sayGlue (a0 : Int32) (Ce : Nat → Int64) (Si : Int32) (Te : Nat → Int32) (Bz : Int32) (Bk : Nat → Int32) : Int32 × (Nat → Int32) × Int32 × (Nat → Int32) := (let u3 := f_X6_sayLength (Ce a0.toNatClampNeg) Si Te Bz Bk; (let u5 := f_X6_sayOrder (0 : Int64) u3.1 u3.2.1; (let u6 := L_X6_sayGlue_17 3 (1 : Int32) u5.1 u5.2 u3.2.2.1 u3.2.2.2 a0 Ce; (u6.2.1, u6.2.2.1, u6.2.2.2.1, u6.2.2.2.2))))
def S_X6_sayGlue (a0 : Int32) (Ce : Nat → Int64) (Si : Int32) (Te : Nat → Int32) (Bz : Int32) (Bk : Nat → Int32) : Prop := (vp_in a0 3360) ∧ ((S_X6_sayLength (Ce a0.toNatClampNeg) Si Te Bz Bk) ∧ (∀ u3, u3 = f_X6_sayLength (Ce a0.toNatClampNeg) Si Te Bz Bk → ((S_X6_sayOrder (0 : Int64) u3.1 u3.2.1) ∧ (∀ u5, u5 = f_X6_sayOrder (0 : Int64) u3.1 u3.2.1 → ((SL_X6_sayGlue_17 3 (1 : Int32) u5.1 u5.2 u3.2.2.1 u3.2.2.2 a0 Ce) ∧ (∀ u6, u6 = L_X6_sayGlue_17 3 (1 : Int32) u5.1 u5.2 u3.2.2.1 u3.2.2.2 a0 Ce → (True)))))))
set_option maxHeartbeats 4000000 in
set_option maxRecDepth 100000 in
theorem c_X6_sayGlue (l : Launch) (dC : Nat → ClassId) (dI : Nat → Nat → Nat) (cI cJ : ClassId) (ad : Nat → Nat) (hi : fI 17 ad) (sz : Nat) (Th : Int32) (Ce : Nat → Int64) (Le : Nat → Int32) (De : Int32) (Ke : Int32) (Kc : Nat → Int64) (Ko : Nat → Int32) (Kl : Nat → Int32) (Kd : Nat → Int32) (Ug : Nat → Int64) (Ur : Nat → Int64) (Va : Nat → Int64) (To : Int32) (Tt : Nat → Int32) (Td : Nat → Int32) (Go : Int32) (Gg : Nat → Int32) (Ga : Nat → Int32) (Be : Int32) (Bt : Nat → Int32) (Si : Int32) (Te : Nat → Int32) (Bz : Int32) (Bk : Nat → Int32) (a0 : Int32) (hs : S_X6_sayGlue a0 Ce Si Te Bz Bk) : Met l yX6_sayGlue (mW yX6_sayGlue cX6_sayGlue 3 none) { frames := 3, cells := 0, slots := 0, locals := 74 } (va_Pc [.ref (ad 0), .int a0] (fun U => U.heap.size = sz ∧ va_P (dC, dI) vwCl (wM ad cI cJ Th Ce Le De Ke Kc Ko Kl Kd Ug Ur Va To Tt Td Go Gg Ga Be Bt Si Te Bz Bk) U.heap ∧ va_K (dC, dI) vwCl [(cI, .int), (cJ, .long)] U)) (va_Qv (fun (_ : Unit) => True) (fun _ t => va_P (dC, dI) vwCl (wM ad cI cJ Th Ce Le De Ke Kc Ko Kl Kd Ug Ur Va To Tt Td Go Gg Ga Be Bt ((f_X6_sayGlue a0 Ce Si Te Bz Bk).1) ((f_X6_sayGlue a0 Ce Si Te Bz Bk).2.1) ((f_X6_sayGlue a0 Ce Si Te Bz Bk).2.2.1) ((f_X6_sayGlue a0 Ce Si Te Bz Bk).2.2.2)) t.heap) (fA 17 ad sz)) 0 0 (fA 17 ad sz) := by
  refine Met.ofW (cc := cX6_sayGlue) (maxL := 3) (ret := none) (by decide) rfl ?_
  intro p e s m args below meth c s₁ B hml hv
  obtain ⟨rfl, hsz, hP, hK⟩ := hv
  have hx := B.exec
  have hb := B.bytes
  have hr := B.returns
  have hts := mW_hts (atoms_spec (ws := (mW yX6_sayGlue cX6_sayGlue 3 none)) B.pre)
  have hown : s.vm.findClass RX6 = some m.cls := findClass_of_methodNamed B.named
  have hlocks := B.notSynchronized
  subst hsz
  have hA : ∀ (n : Nat) (q : Nat), s.heap.size ≤ n → n ≤ q → fA 17 ad s.heap.size q := fun n q h1 h2 => Or.inr (Nat.le_trans h1 h2)
  have hS : va_S (fA 17 ad s.heap.size) s.heap s.heap [] := va_S.rf
  have hA : ∀ q, s.heap.size ≤ q → (fA 17 ad s.heap.size) q := fun q h => Or.inr h
  unfold S_X6_sayGlue at hs
  have hl := lv_entry ([.ref (ad 0), .int a0]) (n := 3) (Nat.le_of_ble_eq_true rfl)
  rw [lg_entry_eq]
  generalize (lg_sl ([.ref (ad 0), .int a0]) ++ List.replicate (3 - (lg_sl ([.ref (ad 0), .int a0])).length) Slot.unset).toArray = ls at hl ⊢
  have hl : lv_has ls 3 [(0, .ref (ad 0)), (1, .int a0)] := hl
  refine W_gen (fun Q9 hQ9 => ?_)
  refine lv_aload_n hx hb dX6_sayGlue_0 rfl (lv_at hl 0 rfl) ?_
  refine lv_aload_n hx hb dX6_sayGlue_1 rfl (lv_at hl 0 rfl) ?_
  refine va_get (D := (dC, dI)) (ci := 8) (v := .ref (ad 1)) (C := RX6) (T := TX6) (N := 24) hx hb hts iW_X6 hown hK hP 0 rfl rfl 1 (by decide) (hts _ mF_RX6_7) (fun _ h9 => h9) rfl dX6_sayGlue_2 ?_
  refine lv_iload_n hx hb dX6_sayGlue_5 rfl (lv_at hl 1 rfl) ?_
  obtain ⟨h1, hs⟩ := hs
  refine va_lald hx hb hK hP 1 1 rfl rfl h1 dX6_sayGlue_6 ?_
  obtain ⟨h2, hs⟩ := hs
  obtain ⟨u3, hu3⟩ : ∃ z, z = f_X6_sayLength (Ce a0.toNatClampNeg) Si Te Bz Bk := ⟨_, rfl⟩
  have hs := hs u3 hu3
  refine q_X6_sayLength hx hb hml hown hts mM_RX6_206 ⟨Nat.le_of_ble_eq_true rfl, Nat.le_of_ble_eq_true rfl⟩ ⟨Nat.le_of_ble_eq_true rfl, Nat.le_of_ble_eq_true rfl⟩ hl.1 (Nat.le_of_ble_eq_true rfl) hS dX6_sayGlue_7 (fun _ h9 => fA_mono hS.1 h9) hi hK hP (Ce a0.toNatClampNeg) h2 u3 hu3 (fun H locs hP hS => ?_)
  refine lv_aload_n hx hb dX6_sayGlue_10 rfl (lv_at hl 0 rfl) ?_
  refine lv_lconst (v := 0) hx hb dX6_sayGlue_11 (by decide) ?_
  obtain ⟨h4, hs⟩ := hs
  obtain ⟨u5, hu5⟩ : ∃ z, z = f_X6_sayOrder (0 : Int64) u3.1 u3.2.1 := ⟨_, rfl⟩
  have hs := hs u5 hu5
  refine q_X6_sayOrder hx hb hml hown hts mM_RX6_209 ⟨Nat.le_of_ble_eq_true rfl, Nat.le_of_ble_eq_true rfl⟩ ⟨Nat.le_of_ble_eq_true rfl, Nat.le_of_ble_eq_true rfl⟩ hl.1 (Nat.le_of_ble_eq_true rfl) hS dX6_sayGlue_12 (fun _ h9 => fA_mono hS.1 h9) hi hK hP (0 : Int64) h4 u5 hu5 (fun H locs hP hS => ?_)
  refine lv_iconst (v := 1) hx hb dX6_sayGlue_15 (by decide) ?_
  refine lv_istore_n (lv' := [(2, .int (1 : Int32)), (0, .ref (ad 0)), (1, .int a0)]) hx hb dX6_sayGlue_16 rfl hl (by decide) rfl (fun ls hl => ?_)
  obtain ⟨h7, hs⟩ := hs
  obtain ⟨u6, hu6⟩ : ∃ z, z = L_X6_sayGlue_17 3 (1 : Int32) u5.1 u5.2 u3.2.2.1 u3.2.2.2 a0 Ce := ⟨_, rfl⟩
  have hs := hs u6 hu6
  have hex8 : ∀ (H : Heap) (locs : List Loc) (ls : Array Slot), va_P (dC, dI) vwCl (wM ad cI cJ Th Ce Le De Ke Kc Ko Kl Kd Ug Ur Va To Tt Td Go Gg Ga Be Bt u6.2.1 u6.2.2.1 u6.2.2.2.1 u6.2.2.2.2) H → va_S (fA 17 ad s.heap.size) s.heap H locs → lv_has ls 3 [(2, .int u6.1), (0, .ref (ad 0)), (1, .int a0)] → W p l e (headSpec (mW yX6_sayGlue cX6_sayGlue 3 none) { frames := 3, cells := 0, slots := 0, locals := 74 }).room s m ([.ref (ad 0), .int a0] : List Value).toArray below meth c H locs 0 0 Q9 (F0 m 81 ls []) := by
    intro H locs ls hP hS hl
    rw [hQ9]
    have hf : f_X6_sayGlue a0 Ce Si Te Bz Bk = (u6.2.1, u6.2.2.1, u6.2.2.2.1, u6.2.2.2.2) := by simp only [f_X6_sayGlue, ← hu3, ← hu5, ← hu6]
    exact W.vret hx hb hr (fun t ht hW => ⟨⟨(), rfl, True.intro, by rw [hf]; show va_P (dC, dI) vwCl _ t.heap; rw [ht]; exact hP⟩, hS.F ht⟩) hS.2.2 dX6_sayGlue_81
  have hlp9 : ∀ (n : Nat) (x2v : Int32) (Siv : Int32) (Tev : Nat → Int32) (Bzv : Int32) (Bkv : Nat → Int32) (H : Heap) (locs : List Loc) (ls : Array Slot), SL_X6_sayGlue_17 n x2v Siv Tev Bzv Bkv a0 Ce → u6 = L_X6_sayGlue_17 n x2v Siv Tev Bzv Bkv a0 Ce → va_P (dC, dI) vwCl (wM ad cI cJ Th Ce Le De Ke Kc Ko Kl Kd Ug Ur Va To Tt Td Go Gg Ga Be Bt Siv Tev Bzv Bkv) H → va_S (fA 17 ad s.heap.size) s.heap H locs → lv_has ls 3 [(2, .int x2v), (0, .ref (ad 0)), (1, .int a0)] → W p l e (headSpec (mW yX6_sayGlue cX6_sayGlue 3 none) { frames := 3, cells := 0, slots := 0, locals := 74 }).room s m ([.ref (ad 0), .int a0] : List Value).toArray below meth c H locs 0 0 Q9 (F0 m 17 ls []) := by
    intro n
    induction n with
    | zero => intro x2v Siv Tev Bzv Bkv H locs ls hs; rw [SL_X6_sayGlue_17] at hs; exact hs.elim
    | succ n ih =>
      intro x2v Siv Tev Bzv Bkv H locs ls hs hq10 hP hS hl
      rw [SL_X6_sayGlue_17] at hs
      refine lv_iload_n hx hb dX6_sayGlue_17 rfl (lv_at hl 0 rfl) ?_
      refine lv_iconst (v := 4) hx hb dX6_sayGlue_18 (by decide) ?_
      refine lv_icmp_ge (tgt := 81) hx hb dX6_sayGlue_19 (by decide) (fun c11 => ?_) (fun c11 => ?_)
      · have hs := hs.1 c11
        have he12 : u6 = (x2v, Siv, Tev, Bzv, Bkv) := by rw [hq10, L_X6_sayGlue_17]; simp only [if_pos c11, ↓reduceIte]
        exact hex8 _ _ _ (by first | exact hP | (rw [he12]; exact hP)) hS (by first | exact lv_sub hl [0, 1, 2] rfl | (rw [he12]; exact lv_sub hl [0, 1, 2] rfl))
      · have hs := hs.2 c11
        refine lv_aload_n hx hb dX6_sayGlue_22 rfl (lv_at hl 1 rfl) ?_
        refine va_get (D := (dC, dI)) (ci := 8) (v := .ref (ad 1)) (C := RX6) (T := TX6) (N := 24) hx hb hts iW_X6 hown hK hP 0 rfl rfl 1 (by decide) (hts _ mF_RX6_7) (fun _ h9 => h9) rfl dX6_sayGlue_23 ?_
        refine lv_iload_n hx hb dX6_sayGlue_26 rfl (lv_at hl 2 rfl) ?_
        refine lv_iload_n hx hb dX6_sayGlue_27 rfl (lv_at hl 0 rfl) ?_
        refine lv_iadd hx hb dX6_sayGlue_28 ?_
        obtain ⟨h13, hs⟩ := hs
        refine va_lald hx hb hK hP 1 1 rfl rfl h13 dX6_sayGlue_29 ?_
        refine lv_lconst (v := 0) hx hb dX6_sayGlue_30 (by decide) ?_
        refine W.lcmp hx hb dX6_sayGlue_31 ?_
        refine lv_if_eq (tgt := 75) hx hb dX6_sayGlue_32 (by decide) (fun c14 => ?_) (fun c14 => ?_)
        · have c14 : (Ce (a0 + x2v).toNatClampNeg) = (0 : Int64) := lc_eq.mp c14
          have hs := hs.1 c14
          refine lv_iinc (v := (x2v + 2)) (lv' := [(2, .int (x2v + 2)), (0, .ref (ad 0)), (1, .int a0)]) hx hb dX6_sayGlue_75 hl (k := 0) rfl rfl (by decide) rfl (fun ls hl => ?_)
          refine lv_goto (tgt := 17) hx hb dX6_sayGlue_78 (by decide) ?_
          exact ih (x2v + 2) Siv Tev Bzv Bkv _ _ _ hs (by rw [hq10, L_X6_sayGlue_17]; simp only [if_neg c11, if_pos c14, ↓reduceIte]) hP hS (lv_sub hl [0, 1, 2] rfl)
        · have c14 : ¬ (Ce (a0 + x2v).toNatClampNeg) = (0 : Int64) := fun z => c14 (lc_eq.mpr z)
          have hs := hs.2 c14
          refine lv_aload_n hx hb dX6_sayGlue_35 rfl (lv_at hl 1 rfl) ?_
          refine lv_iload_n hx hb dX6_sayGlue_36 rfl (lv_at hl 0 rfl) ?_
          refine lv_iconst (v := 1) hx hb dX6_sayGlue_37 (by decide) ?_
          refine lv_icmp_ne (tgt := 45) hx hb dX6_sayGlue_38 (by decide) (fun c15 => ?_) (fun c15 => ?_)
          · have hs := hs.2 c15
            refine lv_iconst (v := 0) hx hb dX6_sayGlue_45 (by decide) ?_
            obtain ⟨h16, hs⟩ := hs
            obtain ⟨u17, hu17⟩ : ∃ z, z = f_X6_sayWord (0 : Int32) Siv Tev := ⟨_, rfl⟩
            have hs := hs u17 hu17
            refine q_X6_sayWord hx hb hml hown hts mM_RX6_212 ⟨Nat.le_of_ble_eq_true rfl, Nat.le_of_ble_eq_true rfl⟩ ⟨Nat.le_of_ble_eq_true rfl, Nat.le_of_ble_eq_true rfl⟩ hl.1 (Nat.le_of_ble_eq_true rfl) hS dX6_sayGlue_46 (fun _ h9 => fA_mono hS.1 h9) hi hK hP (0 : Int32) h16 u17 hu17 (fun H locs hP hS => ?_)
            refine lv_aload_n hx hb dX6_sayGlue_49 rfl (lv_at hl 1 rfl) ?_
            refine lv_aload_n hx hb dX6_sayGlue_50 rfl (lv_at hl 1 rfl) ?_
            refine va_get (D := (dC, dI)) (ci := 8) (v := .ref (ad 1)) (C := RX6) (T := TX6) (N := 24) hx hb hts iW_X6 hown hK hP 0 rfl rfl 1 (by decide) (hts _ mF_RX6_7) (fun _ h9 => h9) rfl dX6_sayGlue_51 ?_
            refine lv_iload_n hx hb dX6_sayGlue_54 rfl (lv_at hl 2 rfl) ?_
            refine lv_iload_n hx hb dX6_sayGlue_55 rfl (lv_at hl 0 rfl) ?_
            refine lv_iadd hx hb dX6_sayGlue_56 ?_
            obtain ⟨h18, hs⟩ := hs
            refine va_lald hx hb hK hP 1 1 rfl rfl h18 dX6_sayGlue_57 ?_
            obtain ⟨h19, hs⟩ := hs
            obtain ⟨u20, hu20⟩ : ∃ z, z = f_X6_sayLength (Ce (a0 + x2v).toNatClampNeg) u17.1 u17.2 Bzv Bkv := ⟨_, rfl⟩
            have hs := hs u20 hu20
            refine q_X6_sayLength hx hb hml hown hts mM_RX6_206 ⟨Nat.le_of_ble_eq_true rfl, Nat.le_of_ble_eq_true rfl⟩ ⟨Nat.le_of_ble_eq_true rfl, Nat.le_of_ble_eq_true rfl⟩ hl.1 (Nat.le_of_ble_eq_true rfl) hS dX6_sayGlue_58 (fun _ h9 => fA_mono hS.1 h9) hi hK hP (Ce (a0 + x2v).toNatClampNeg) h19 u20 hu20 (fun H locs hP hS => ?_)
            refine lv_aload_n hx hb dX6_sayGlue_61 rfl (lv_at hl 1 rfl) ?_
            refine lv_aload_n hx hb dX6_sayGlue_62 rfl (lv_at hl 1 rfl) ?_
            refine va_get (D := (dC, dI)) (ci := 8) (v := .ref (ad 1)) (C := RX6) (T := TX6) (N := 24) hx hb hts iW_X6 hown hK hP 0 rfl rfl 1 (by decide) (hts _ mF_RX6_7) (fun _ h9 => h9) rfl dX6_sayGlue_63 ?_
            refine lv_iload_n hx hb dX6_sayGlue_66 rfl (lv_at hl 2 rfl) ?_
            refine lv_iload_n hx hb dX6_sayGlue_67 rfl (lv_at hl 0 rfl) ?_
            refine lv_iadd hx hb dX6_sayGlue_68 ?_
            refine lv_iconst (v := 1) hx hb dX6_sayGlue_69 (by decide) ?_
            refine lv_iadd hx hb dX6_sayGlue_70 ?_
            obtain ⟨h21, hs⟩ := hs
            refine va_lald hx hb hK hP 1 1 rfl rfl h21 dX6_sayGlue_71 ?_
            obtain ⟨h22, hs⟩ := hs
            obtain ⟨u23, hu23⟩ : ∃ z, z = f_X6_sayOrder (Ce ((a0 + x2v) + (1 : Int32)).toNatClampNeg) u20.1 u20.2.1 := ⟨_, rfl⟩
            have hs := hs u23 hu23
            refine q_X6_sayOrder hx hb hml hown hts mM_RX6_209 ⟨Nat.le_of_ble_eq_true rfl, Nat.le_of_ble_eq_true rfl⟩ ⟨Nat.le_of_ble_eq_true rfl, Nat.le_of_ble_eq_true rfl⟩ hl.1 (Nat.le_of_ble_eq_true rfl) hS dX6_sayGlue_72 (fun _ h9 => fA_mono hS.1 h9) hi hK hP (Ce ((a0 + x2v) + (1 : Int32)).toNatClampNeg) h22 u23 hu23 (fun H locs hP hS => ?_)
            refine lv_iinc (v := (x2v + 2)) (lv' := [(2, .int (x2v + 2)), (0, .ref (ad 0)), (1, .int a0)]) hx hb dX6_sayGlue_75 hl (k := 0) rfl rfl (by decide) rfl (fun ls hl => ?_)
            refine lv_goto (tgt := 17) hx hb dX6_sayGlue_78 (by decide) ?_
            exact ih (x2v + 2) u23.1 u23.2 u20.2.2.1 u20.2.2.2 _ _ _ hs (by rw [hq10, L_X6_sayGlue_17]; simp only [if_neg c11, if_neg c14, if_neg c15, ← hu17, ← hu20, ← hu23, ↓reduceIte]) hP hS (lv_sub hl [0, 1, 2] rfl)
          · have hs := hs.1 c15
            refine lv_iconst (v := 1) hx hb dX6_sayGlue_41 (by decide) ?_
            refine lv_goto (tgt := 46) hx hb dX6_sayGlue_42 (by decide) ?_
            obtain ⟨h24, hs⟩ := hs
            obtain ⟨u25, hu25⟩ : ∃ z, z = f_X6_sayWord (1 : Int32) Siv Tev := ⟨_, rfl⟩
            have hs := hs u25 hu25
            refine q_X6_sayWord hx hb hml hown hts mM_RX6_212 ⟨Nat.le_of_ble_eq_true rfl, Nat.le_of_ble_eq_true rfl⟩ ⟨Nat.le_of_ble_eq_true rfl, Nat.le_of_ble_eq_true rfl⟩ hl.1 (Nat.le_of_ble_eq_true rfl) hS dX6_sayGlue_46 (fun _ h9 => fA_mono hS.1 h9) hi hK hP (1 : Int32) h24 u25 hu25 (fun H locs hP hS => ?_)
            refine lv_aload_n hx hb dX6_sayGlue_49 rfl (lv_at hl 1 rfl) ?_
            refine lv_aload_n hx hb dX6_sayGlue_50 rfl (lv_at hl 1 rfl) ?_
            refine va_get (D := (dC, dI)) (ci := 8) (v := .ref (ad 1)) (C := RX6) (T := TX6) (N := 24) hx hb hts iW_X6 hown hK hP 0 rfl rfl 1 (by decide) (hts _ mF_RX6_7) (fun _ h9 => h9) rfl dX6_sayGlue_51 ?_
            refine lv_iload_n hx hb dX6_sayGlue_54 rfl (lv_at hl 2 rfl) ?_
            refine lv_iload_n hx hb dX6_sayGlue_55 rfl (lv_at hl 0 rfl) ?_
            refine lv_iadd hx hb dX6_sayGlue_56 ?_
            obtain ⟨h26, hs⟩ := hs
            refine va_lald hx hb hK hP 1 1 rfl rfl h26 dX6_sayGlue_57 ?_
            obtain ⟨h27, hs⟩ := hs
            obtain ⟨u28, hu28⟩ : ∃ z, z = f_X6_sayLength (Ce (a0 + x2v).toNatClampNeg) u25.1 u25.2 Bzv Bkv := ⟨_, rfl⟩
            have hs := hs u28 hu28
            refine q_X6_sayLength hx hb hml hown hts mM_RX6_206 ⟨Nat.le_of_ble_eq_true rfl, Nat.le_of_ble_eq_true rfl⟩ ⟨Nat.le_of_ble_eq_true rfl, Nat.le_of_ble_eq_true rfl⟩ hl.1 (Nat.le_of_ble_eq_true rfl) hS dX6_sayGlue_58 (fun _ h9 => fA_mono hS.1 h9) hi hK hP (Ce (a0 + x2v).toNatClampNeg) h27 u28 hu28 (fun H locs hP hS => ?_)
            refine lv_aload_n hx hb dX6_sayGlue_61 rfl (lv_at hl 1 rfl) ?_
            refine lv_aload_n hx hb dX6_sayGlue_62 rfl (lv_at hl 1 rfl) ?_
            refine va_get (D := (dC, dI)) (ci := 8) (v := .ref (ad 1)) (C := RX6) (T := TX6) (N := 24) hx hb hts iW_X6 hown hK hP 0 rfl rfl 1 (by decide) (hts _ mF_RX6_7) (fun _ h9 => h9) rfl dX6_sayGlue_63 ?_
            refine lv_iload_n hx hb dX6_sayGlue_66 rfl (lv_at hl 2 rfl) ?_
            refine lv_iload_n hx hb dX6_sayGlue_67 rfl (lv_at hl 0 rfl) ?_
            refine lv_iadd hx hb dX6_sayGlue_68 ?_
            refine lv_iconst (v := 1) hx hb dX6_sayGlue_69 (by decide) ?_
            refine lv_iadd hx hb dX6_sayGlue_70 ?_
            obtain ⟨h29, hs⟩ := hs
            refine va_lald hx hb hK hP 1 1 rfl rfl h29 dX6_sayGlue_71 ?_
            obtain ⟨h30, hs⟩ := hs
            obtain ⟨u31, hu31⟩ : ∃ z, z = f_X6_sayOrder (Ce ((a0 + x2v) + (1 : Int32)).toNatClampNeg) u28.1 u28.2.1 := ⟨_, rfl⟩
            have hs := hs u31 hu31
            refine q_X6_sayOrder hx hb hml hown hts mM_RX6_209 ⟨Nat.le_of_ble_eq_true rfl, Nat.le_of_ble_eq_true rfl⟩ ⟨Nat.le_of_ble_eq_true rfl, Nat.le_of_ble_eq_true rfl⟩ hl.1 (Nat.le_of_ble_eq_true rfl) hS dX6_sayGlue_72 (fun _ h9 => fA_mono hS.1 h9) hi hK hP (Ce ((a0 + x2v) + (1 : Int32)).toNatClampNeg) h30 u31 hu31 (fun H locs hP hS => ?_)
            refine lv_iinc (v := (x2v + 2)) (lv' := [(2, .int (x2v + 2)), (0, .ref (ad 0)), (1, .int a0)]) hx hb dX6_sayGlue_75 hl (k := 0) rfl rfl (by decide) rfl (fun ls hl => ?_)
            refine lv_goto (tgt := 17) hx hb dX6_sayGlue_78 (by decide) ?_
            exact ih (x2v + 2) u31.1 u31.2 u28.2.2.1 u28.2.2.2 _ _ _ hs (by rw [hq10, L_X6_sayGlue_17]; simp only [if_neg c11, if_neg c14, if_pos c15, ← hu25, ← hu28, ← hu31, ↓reduceIte]) hP hS (lv_sub hl [0, 1, 2] rfl)
  exact hlp9 3 (1 : Int32) u5.1 u5.2 u3.2.2.1 u3.2.2.2 _ _ _ h7 hu6 hP hS (lv_sub hl [0, 1, 2] rfl)
theorem q_X6_sayGlue {p : Program} {l : Launch} {e : Env} {R : Room} {s : State} {m : MethodId} {args : Array Value} {below : List Frame} {meth : Method} {c : Code} {H : Heap} {locs : List Loc} {cells slots : Nat} {Q : State → Prop} {pc : Nat} {ls : Array Slot} {rest : List Value} {cc : ByteArray} {nL idx : Nat} {own : String} {A0 : Nat → Prop} {dC : Nat → ClassId} {dI : Nat → Nat → Nat} {cI cJ : ClassId} {ad : Nat → Nat} {Th : Int32} {Ce : Nat → Int64} {Le : Nat → Int32} {De : Int32} {Ke : Int32} {Kc : Nat → Int64} {Ko : Nat → Int32} {Kl : Nat → Int32} {Kd : Nat → Int32} {Ug : Nat → Int64} {Ur : Nat → Int64} {Va : Nat → Int64} {To : Int32} {Tt : Nat → Int32} {Td : Nat → Int32} {Go : Int32} {Gg : Nat → Int32} {Ga : Nat → Int32} {Be : Int32} {Bt : Nat → Int32} {Si : Int32} {Te : Nat → Int32} {Bz : Int32} {Bk : Nat → Int32} (hx : p.tables.exec = Jvm.exec) (hb : c.code = cc) (hml : c.maxLocals = nL) (hown : s.vm.findClass own = some m.cls) (hts : ∀ w ∈ bigW, w.before args s = true) (hlk : Cond.methodLink own idx yX6_sayGlue ∈ bigW) (hR : 4 ≤ R.frames ∧ 96 ≤ R.locals) (hf : cells + 0 ≤ R.cells ∧ slots + 0 ≤ R.slots) (hz : ls.size = nL) (hw : (rest.map fun v => v.category).sum ≤ 8) (hS : va_S A0 s.heap H locs) (hd : decode cc pc = .ok (.invokevirtual idx, 3)) (hA : ∀ q, fA 17 ad H.size q → A0 q) (hi : fI 17 ad) (hK : va_K (dC, dI) vwCl [(cI, .int), (cJ, .long)] s) (hP : va_P (dC, dI) vwCl (wM ad cI cJ Th Ce Le De Ke Kc Ko Kl Kd Ug Ur Va To Tt Td Go Gg Ga Be Bt Si Te Bz Bk) H) (a0 : Int32) (hs : S_X6_sayGlue a0 Ce Si Te Bz Bk)  (u : Int32 × (Nat → Int32) × Int32 × (Nat → Int32)) (hu : u = f_X6_sayGlue a0 Ce Si Te Bz Bk) (k : ∀ (H1 : Heap) (locs1 : List Loc), va_P (dC, dI) vwCl (wM ad cI cJ Th Ce Le De Ke Kc Ko Kl Kd Ug Ur Va To Tt Td Go Gg Ga Be Bt u.1 u.2.1 u.2.2.1 u.2.2.2) H1 → va_S A0 s.heap H1 locs1 → W p l e R s m args below meth c H1 locs1 (cells + 0) (slots + 0) Q (F0 m (pc + 3) ls (rest))) : W p l e R s m args below meth c H locs cells slots Q (F0 m pc ls (.int a0 :: .ref (ad 0) :: rest)) := by
  subst hu
  exact va_callv (va_runV (As := [.int a0]) (rest := rest) ⟨hx, hb, hml, hown, hts⟩ (c_X6_sayGlue l dC dI cI cJ ad hi H.size Th Ce Le De Ke Kc Ko Kl Kd Ug Ur Va To Tt Td Go Gg Ga Be Bt Si Te Bz Bk a0 hs) (kV 1 hts hlk mI_X6_sayGlue mN_RX6 mY_X6_sayGlue mV_X6_sayGlue rfl rfl (by decide +kernel) hR) ⟨fun a U g mk q => ⟨q.1, q.2.1, q.2.2.1, va_K.moved (u := U) (U := U.calling g mk a) (Vm.Alike.refl U.vm) q.2.2.2⟩, va_recv hK hP (ci := 8) (q0 := 0) rfl rfl, fun U hU hW => ⟨rfl, by rw [hU], by rw [hU]; exact hP, va_K.moved hW.alike hK⟩⟩ rfl rfl hz rfl (lv_room hw) hd hf) hS (fun q _ h => hA q h) (fun q h => hA q h) (fun u t H1 locs1 ht hvm hw9 hB hz1 hk1 hS1 => by
    skip
    exact k H1 locs1 (by rw [← ht]; exact hB) hS1)

def f_X6_sayVoid (Si : Int32) (Te : Nat → Int32) : Int32 × (Nat → Int32) := (let u2 := f_X6_say (118 : Int32) Si Te; (let u4 := f_X6_say (111 : Int32) u2.1 u2.2; (let u6 := f_X6_say (105 : Int32) u4.1 u4.2; (let u8 := f_X6_say (100 : Int32) u6.1 u6.2; (u8.1, u8.2)))))
def S_X6_sayVoid (Si : Int32) (Te : Nat → Int32) : Prop := (S_X6_say (118 : Int32) Si Te) ∧ (∀ u2, u2 = f_X6_say (118 : Int32) Si Te → ((S_X6_say (111 : Int32) u2.1 u2.2) ∧ (∀ u4, u4 = f_X6_say (111 : Int32) u2.1 u2.2 → ((S_X6_say (105 : Int32) u4.1 u4.2) ∧ (∀ u6, u6 = f_X6_say (105 : Int32) u4.1 u4.2 → ((S_X6_say (100 : Int32) u6.1 u6.2) ∧ (∀ u8, u8 = f_X6_say (100 : Int32) u6.1 u6.2 → (True))))))))
set_option maxHeartbeats 4000000 in
set_option maxRecDepth 100000 in
theorem c_X6_sayVoid (l : Launch) (dC : Nat → ClassId) (dI : Nat → Nat → Nat) (cI cJ : ClassId) (ad : Nat → Nat) (hi : fI 17 ad) (sz : Nat) (Th : Int32) (Ce : Nat → Int64) (Le : Nat → Int32) (De : Int32) (Ke : Int32) (Kc : Nat → Int64) (Ko : Nat → Int32) (Kl : Nat → Int32) (Kd : Nat → Int32) (Ug : Nat → Int64) (Ur : Nat → Int64) (Va : Nat → Int64) (To : Int32) (Tt : Nat → Int32) (Td : Nat → Int32) (Go : Int32) (Gg : Nat → Int32) (Ga : Nat → Int32) (Be : Int32) (Bt : Nat → Int32) (Si : Int32) (Te : Nat → Int32) (Bz : Int32) (Bk : Nat → Int32) (hs : S_X6_sayVoid Si Te) : Met l yX6_sayVoid (mW yX6_sayVoid cX6_sayVoid 1 none) { frames := 1, cells := 0, slots := 0, locals := 21 } (va_Pc [.ref (ad 0)] (fun U => U.heap.size = sz ∧ va_P (dC, dI) vwCl (wM ad cI cJ Th Ce Le De Ke Kc Ko Kl Kd Ug Ur Va To Tt Td Go Gg Ga Be Bt Si Te Bz Bk) U.heap ∧ va_K (dC, dI) vwCl [(cI, .int), (cJ, .long)] U)) (va_Qv (fun (_ : Unit) => True) (fun _ t => va_P (dC, dI) vwCl (wM ad cI cJ Th Ce Le De Ke Kc Ko Kl Kd Ug Ur Va To Tt Td Go Gg Ga Be Bt ((f_X6_sayVoid Si Te).1) ((f_X6_sayVoid Si Te).2) Bz Bk) t.heap) (fA 17 ad sz)) 0 0 (fA 17 ad sz) := by
  refine Met.ofW (cc := cX6_sayVoid) (maxL := 1) (ret := none) (by decide) rfl ?_
  intro p e s m args below meth c s₁ B hml hv
  obtain ⟨rfl, hsz, hP, hK⟩ := hv
  have hx := B.exec
  have hb := B.bytes
  have hr := B.returns
  have hts := mW_hts (atoms_spec (ws := (mW yX6_sayVoid cX6_sayVoid 1 none)) B.pre)
  have hown : s.vm.findClass RX6 = some m.cls := findClass_of_methodNamed B.named
  have hlocks := B.notSynchronized
  subst hsz
  have hA : ∀ (n : Nat) (q : Nat), s.heap.size ≤ n → n ≤ q → fA 17 ad s.heap.size q := fun n q h1 h2 => Or.inr (Nat.le_trans h1 h2)
  have hS : va_S (fA 17 ad s.heap.size) s.heap s.heap [] := va_S.rf
  have hA : ∀ q, s.heap.size ≤ q → (fA 17 ad s.heap.size) q := fun q h => Or.inr h
  unfold S_X6_sayVoid at hs
  have hl := lv_entry ([.ref (ad 0)]) (n := 1) (Nat.le_of_ble_eq_true rfl)
  rw [lg_entry_eq]
  generalize (lg_sl ([.ref (ad 0)]) ++ List.replicate (1 - (lg_sl ([.ref (ad 0)])).length) Slot.unset).toArray = ls at hl ⊢
  have hl : lv_has ls 1 [(0, .ref (ad 0))] := hl
  refine W_gen (fun Q9 hQ9 => ?_)
  refine lv_aload_n hx hb dX6_sayVoid_0 rfl (lv_at hl 0 rfl) ?_
  refine lv_bipush (v := 118) hx hb dX6_sayVoid_1 (by decide) ?_
  obtain ⟨h1, hs⟩ := hs
  obtain ⟨u2, hu2⟩ : ∃ z, z = f_X6_say (118 : Int32) Si Te := ⟨_, rfl⟩
  have hs := hs u2 hu2
  refine q_X6_say hx hb hml hown hts mM_RX6_189 ⟨Nat.le_of_ble_eq_true rfl, Nat.le_of_ble_eq_true rfl⟩ ⟨Nat.le_of_ble_eq_true rfl, Nat.le_of_ble_eq_true rfl⟩ hl.1 (Nat.le_of_ble_eq_true rfl) hS dX6_sayVoid_3 (fun _ h9 => fA_mono hS.1 h9) hi hK hP (118 : Int32) h1 u2 hu2 (fun H locs hP hS => ?_)
  refine lv_aload_n hx hb dX6_sayVoid_6 rfl (lv_at hl 0 rfl) ?_
  refine lv_bipush (v := 111) hx hb dX6_sayVoid_7 (by decide) ?_
  obtain ⟨h3, hs⟩ := hs
  obtain ⟨u4, hu4⟩ : ∃ z, z = f_X6_say (111 : Int32) u2.1 u2.2 := ⟨_, rfl⟩
  have hs := hs u4 hu4
  refine q_X6_say hx hb hml hown hts mM_RX6_189 ⟨Nat.le_of_ble_eq_true rfl, Nat.le_of_ble_eq_true rfl⟩ ⟨Nat.le_of_ble_eq_true rfl, Nat.le_of_ble_eq_true rfl⟩ hl.1 (Nat.le_of_ble_eq_true rfl) hS dX6_sayVoid_9 (fun _ h9 => fA_mono hS.1 h9) hi hK hP (111 : Int32) h3 u4 hu4 (fun H locs hP hS => ?_)
  refine lv_aload_n hx hb dX6_sayVoid_12 rfl (lv_at hl 0 rfl) ?_
  refine lv_bipush (v := 105) hx hb dX6_sayVoid_13 (by decide) ?_
  obtain ⟨h5, hs⟩ := hs
  obtain ⟨u6, hu6⟩ : ∃ z, z = f_X6_say (105 : Int32) u4.1 u4.2 := ⟨_, rfl⟩
  have hs := hs u6 hu6
  refine q_X6_say hx hb hml hown hts mM_RX6_189 ⟨Nat.le_of_ble_eq_true rfl, Nat.le_of_ble_eq_true rfl⟩ ⟨Nat.le_of_ble_eq_true rfl, Nat.le_of_ble_eq_true rfl⟩ hl.1 (Nat.le_of_ble_eq_true rfl) hS dX6_sayVoid_15 (fun _ h9 => fA_mono hS.1 h9) hi hK hP (105 : Int32) h5 u6 hu6 (fun H locs hP hS => ?_)
  refine lv_aload_n hx hb dX6_sayVoid_18 rfl (lv_at hl 0 rfl) ?_
  refine lv_bipush (v := 100) hx hb dX6_sayVoid_19 (by decide) ?_
  obtain ⟨h7, hs⟩ := hs
  obtain ⟨u8, hu8⟩ : ∃ z, z = f_X6_say (100 : Int32) u6.1 u6.2 := ⟨_, rfl⟩
  have hs := hs u8 hu8
  refine q_X6_say hx hb hml hown hts mM_RX6_189 ⟨Nat.le_of_ble_eq_true rfl, Nat.le_of_ble_eq_true rfl⟩ ⟨Nat.le_of_ble_eq_true rfl, Nat.le_of_ble_eq_true rfl⟩ hl.1 (Nat.le_of_ble_eq_true rfl) hS dX6_sayVoid_21 (fun _ h9 => fA_mono hS.1 h9) hi hK hP (100 : Int32) h7 u8 hu8 (fun H locs hP hS => ?_)
  rw [hQ9]
  have hf : f_X6_sayVoid Si Te = (u8.1, u8.2) := by simp only [f_X6_sayVoid, ← hu2, ← hu4, ← hu6, ← hu8]
  exact W.vret hx hb hr (fun t ht hW => ⟨⟨(), rfl, True.intro, by rw [hf]; show va_P (dC, dI) vwCl _ t.heap; rw [ht]; exact hP⟩, hS.F ht⟩) hS.2.2 dX6_sayVoid_24
theorem q_X6_sayVoid {p : Program} {l : Launch} {e : Env} {R : Room} {s : State} {m : MethodId} {args : Array Value} {below : List Frame} {meth : Method} {c : Code} {H : Heap} {locs : List Loc} {cells slots : Nat} {Q : State → Prop} {pc : Nat} {ls : Array Slot} {rest : List Value} {cc : ByteArray} {nL idx : Nat} {own : String} {A0 : Nat → Prop} {dC : Nat → ClassId} {dI : Nat → Nat → Nat} {cI cJ : ClassId} {ad : Nat → Nat} {Th : Int32} {Ce : Nat → Int64} {Le : Nat → Int32} {De : Int32} {Ke : Int32} {Kc : Nat → Int64} {Ko : Nat → Int32} {Kl : Nat → Int32} {Kd : Nat → Int32} {Ug : Nat → Int64} {Ur : Nat → Int64} {Va : Nat → Int64} {To : Int32} {Tt : Nat → Int32} {Td : Nat → Int32} {Go : Int32} {Gg : Nat → Int32} {Ga : Nat → Int32} {Be : Int32} {Bt : Nat → Int32} {Si : Int32} {Te : Nat → Int32} {Bz : Int32} {Bk : Nat → Int32} (hx : p.tables.exec = Jvm.exec) (hb : c.code = cc) (hml : c.maxLocals = nL) (hown : s.vm.findClass own = some m.cls) (hts : ∀ w ∈ bigW, w.before args s = true) (hlk : Cond.methodLink own idx yX6_sayVoid ∈ bigW) (hR : 2 ≤ R.frames ∧ 41 ≤ R.locals) (hf : cells + 0 ≤ R.cells ∧ slots + 0 ≤ R.slots) (hz : ls.size = nL) (hw : (rest.map fun v => v.category).sum ≤ 8) (hS : va_S A0 s.heap H locs) (hd : decode cc pc = .ok (.invokevirtual idx, 3)) (hA : ∀ q, fA 17 ad H.size q → A0 q) (hi : fI 17 ad) (hK : va_K (dC, dI) vwCl [(cI, .int), (cJ, .long)] s) (hP : va_P (dC, dI) vwCl (wM ad cI cJ Th Ce Le De Ke Kc Ko Kl Kd Ug Ur Va To Tt Td Go Gg Ga Be Bt Si Te Bz Bk) H) (hs : S_X6_sayVoid Si Te)  (u : Int32 × (Nat → Int32)) (hu : u = f_X6_sayVoid Si Te) (k : ∀ (H1 : Heap) (locs1 : List Loc), va_P (dC, dI) vwCl (wM ad cI cJ Th Ce Le De Ke Kc Ko Kl Kd Ug Ur Va To Tt Td Go Gg Ga Be Bt u.1 u.2 Bz Bk) H1 → va_S A0 s.heap H1 locs1 → W p l e R s m args below meth c H1 locs1 (cells + 0) (slots + 0) Q (F0 m (pc + 3) ls (rest))) : W p l e R s m args below meth c H locs cells slots Q (F0 m pc ls (.ref (ad 0) :: rest)) := by
  subst hu
  exact va_callv (va_runV (As := []) (rest := rest) ⟨hx, hb, hml, hown, hts⟩ (c_X6_sayVoid l dC dI cI cJ ad hi H.size Th Ce Le De Ke Kc Ko Kl Kd Ug Ur Va To Tt Td Go Gg Ga Be Bt Si Te Bz Bk hs) (kV 0 hts hlk mI_X6_sayVoid mN_RX6 mY_X6_sayVoid mV_X6_sayVoid rfl rfl (by decide +kernel) hR) ⟨fun a U g mk q => ⟨q.1, q.2.1, q.2.2.1, va_K.moved (u := U) (U := U.calling g mk a) (Vm.Alike.refl U.vm) q.2.2.2⟩, va_recv hK hP (ci := 8) (q0 := 0) rfl rfl, fun U hU hW => ⟨rfl, by rw [hU], by rw [hU]; exact hP, va_K.moved hW.alike hK⟩⟩ rfl rfl hz rfl (lv_room hw) hd hf) hS (fun q _ h => hA q h) (fun q h => hA q h) (fun u t H1 locs1 ht hvm hw9 hB hz1 hk1 hS1 => by
    skip
    exact k H1 locs1 (by rw [← ht]; exact hB) hS1)

def L_X6_shown_93 : Nat → Int32 → Int32 → (Nat → Int32) → Int32 → (Nat → Int64) → Int32 × Int32 × (Nat → Int32)
  | 0, x5, Si, Te, x4, Ce => (x5, Si, Te)
  | n + 1, x5, Si, Te, x4, Ce => (if (Ce x4.toNatClampNeg) ≤ x5.toInt64 then (x5, Si, Te) else (let u31 := f_X6_say ((Ce ((x4 + (1 : Int32)) + x5).toNatClampNeg).toInt32) Si Te; L_X6_shown_93 n (x5 + 1) u31.1 u31.2 x4 Ce))
def SL_X6_shown_93 : Nat → Int32 → Int32 → (Nat → Int32) → Int32 → (Nat → Int64) → Prop
  | 0, _, _, _, _, _ => False
  | n + 1, x5, Si, Te, x4, Ce => (vp_in x4 3360) ∧ (((Ce x4.toNatClampNeg) ≤ x5.toInt64 → (True)) ∧ (¬ (Ce x4.toNatClampNeg) ≤ x5.toInt64 → ((vp_in ((x4 + (1 : Int32)) + x5) 3360) ∧ ((S_X6_say ((Ce ((x4 + (1 : Int32)) + x5).toNatClampNeg).toInt32) Si Te) ∧ (∀ u31, u31 = f_X6_say ((Ce ((x4 + (1 : Int32)) + x5).toNatClampNeg).toInt32) Si Te → (SL_X6_shown_93 n (x5 + 1) u31.1 u31.2 x4 Ce))))))
def f_X6_shown (a0 : Int32) (a1 : Int32) (a2 : Int32) (Th : Int32) (Ce : Nat → Int64) (Si : Int32) (Te : Nat → Int32) (Bz : Int32) (Bk : Nat → Int32) : Int32 × Int32 × Int32 × (Nat → Int32) × Int32 × (Nat → Int32) := (if (f_X6_isKind a0) = 0 then ((0 : Int32), (1 : Int32), Si, Te, Bz, Bk) else (if (f_X6_isRegister a1) = 0 then ((0 : Int32), (2 : Int32), Si, Te, Bz, Bk) else (if a0 = (1 : Int32) then (let u48 := f_X6_sayLength (Ce ((21 : Int32) * (((32 : Int32) * a0) + a1)).toNatClampNeg) (0 : Int32) Te Bz Bk; (if a2 < 0 then ((-1 : Int32), (0 : Int32), u48.1, u48.2.1, u48.2.2.1, u48.2.2.2) else (if u48.1 ≤ a2 then ((-1 : Int32), (0 : Int32), u48.1, u48.2.1, u48.2.2.1, u48.2.2.2) else ((u48.2.1 a2.toNatClampNeg), (0 : Int32), u48.1, u48.2.1, u48.2.2.1, u48.2.2.2)))) else (if a0 = (2 : Int32) then (let u42 := f_X6_sayGlue ((21 : Int32) * (((32 : Int32) * a0) + a1)) Ce (0 : Int32) Te Bz Bk; (if a2 < 0 then ((-1 : Int32), (0 : Int32), u42.1, u42.2.1, u42.2.2.1, u42.2.2.2) else (if u42.1 ≤ a2 then ((-1 : Int32), (0 : Int32), u42.1, u42.2.1, u42.2.2.1, u42.2.2.2) else ((u42.2.1 a2.toNatClampNeg), (0 : Int32), u42.1, u42.2.1, u42.2.2.1, u42.2.2.2)))) else (if a0 = (3 : Int32) then (let u27 := L_X6_shown_93 22 (0 : Int32) (0 : Int32) Te ((21 : Int32) * (((32 : Int32) * a0) + a1)) Ce; (if a2 < 0 then ((-1 : Int32), (0 : Int32), u27.2.1, u27.2.2, Bz, Bk) else (if u27.2.1 ≤ a2 then ((-1 : Int32), (0 : Int32), u27.2.1, u27.2.2, Bz, Bk) else ((u27.2.2 a2.toNatClampNeg), (0 : Int32), u27.2.1, u27.2.2, Bz, Bk)))) else (if a0 = (4 : Int32) then (if (0 : Int64) ≤ (Ce ((21 : Int32) * (((32 : Int32) * a0) + a1)).toNatClampNeg) then (let u18 := f_X6_sayNumber (Ce ((21 : Int32) * (((32 : Int32) * a0) + a1)).toNatClampNeg) (0 : Int32) Te Bz Bk; (if a2 < 0 then ((-1 : Int32), (0 : Int32), u18.1, u18.2.1, u18.2.2.1, u18.2.2.2) else (if u18.1 ≤ a2 then ((-1 : Int32), (0 : Int32), u18.1, u18.2.1, u18.2.2.1, u18.2.2.2) else ((u18.2.1 a2.toNatClampNeg), (0 : Int32), u18.1, u18.2.1, u18.2.2.1, u18.2.2.2)))) else (let u23 := f_X6_sayVoid (0 : Int32) Te; (if a2 < 0 then ((-1 : Int32), (0 : Int32), u23.1, u23.2, Bz, Bk) else (if u23.1 ≤ a2 then ((-1 : Int32), (0 : Int32), u23.1, u23.2, Bz, Bk) else ((u23.2 a2.toNatClampNeg), (0 : Int32), u23.1, u23.2, Bz, Bk))))) else (let u10 := f_X6_sayNumber (Ce ((21 : Int32) * (((32 : Int32) * a0) + a1)).toNatClampNeg) (0 : Int32) Te Bz Bk; (if a2 < 0 then ((-1 : Int32), (0 : Int32), u10.1, u10.2.1, u10.2.2.1, u10.2.2.2) else (if u10.1 ≤ a2 then ((-1 : Int32), (0 : Int32), u10.1, u10.2.1, u10.2.2.1, u10.2.2.2) else ((u10.2.1 a2.toNatClampNeg), (0 : Int32), u10.1, u10.2.1, u10.2.2.1, u10.2.2.2))))))))))
def S_X6_shown (a0 : Int32) (a1 : Int32) (a2 : Int32) (Th : Int32) (Ce : Nat → Int64) (Si : Int32) (Te : Nat → Int32) (Bz : Int32) (Bk : Nat → Int32) : Prop := ((f_X6_isKind a0) = 0 → (True)) ∧ (¬ (f_X6_isKind a0) = 0 → (((f_X6_isRegister a1) = 0 → (True)) ∧ (¬ (f_X6_isRegister a1) = 0 → ((a0 = (1 : Int32) → ((vp_in ((21 : Int32) * (((32 : Int32) * a0) + a1)) 3360) ∧ ((S_X6_sayLength (Ce ((21 : Int32) * (((32 : Int32) * a0) + a1)).toNatClampNeg) (0 : Int32) Te Bz Bk) ∧ (∀ u48, u48 = f_X6_sayLength (Ce ((21 : Int32) * (((32 : Int32) * a0) + a1)).toNatClampNeg) (0 : Int32) Te Bz Bk → ((a2 < 0 → (True)) ∧ (¬ a2 < 0 → ((u48.1 ≤ a2 → (True)) ∧ (¬ u48.1 ≤ a2 → ((vp_in a2 120) ∧ (True)))))))))) ∧ (¬ a0 = (1 : Int32) → ((a0 = (2 : Int32) → ((S_X6_sayGlue ((21 : Int32) * (((32 : Int32) * a0) + a1)) Ce (0 : Int32) Te Bz Bk) ∧ (∀ u42, u42 = f_X6_sayGlue ((21 : Int32) * (((32 : Int32) * a0) + a1)) Ce (0 : Int32) Te Bz Bk → ((a2 < 0 → (True)) ∧ (¬ a2 < 0 → ((u42.1 ≤ a2 → (True)) ∧ (¬ u42.1 ≤ a2 → ((vp_in a2 120) ∧ (True))))))))) ∧ (¬ a0 = (2 : Int32) → ((a0 = (3 : Int32) → ((SL_X6_shown_93 22 (0 : Int32) (0 : Int32) Te ((21 : Int32) * (((32 : Int32) * a0) + a1)) Ce) ∧ (∀ u27, u27 = L_X6_shown_93 22 (0 : Int32) (0 : Int32) Te ((21 : Int32) * (((32 : Int32) * a0) + a1)) Ce → ((a2 < 0 → (True)) ∧ (¬ a2 < 0 → ((u27.2.1 ≤ a2 → (True)) ∧ (¬ u27.2.1 ≤ a2 → ((vp_in a2 120) ∧ (True))))))))) ∧ (¬ a0 = (3 : Int32) → ((a0 = (4 : Int32) → ((vp_in ((21 : Int32) * (((32 : Int32) * a0) + a1)) 3360) ∧ (((0 : Int64) ≤ (Ce ((21 : Int32) * (((32 : Int32) * a0) + a1)).toNatClampNeg) → ((vp_in ((21 : Int32) * (((32 : Int32) * a0) + a1)) 3360) ∧ ((S_X6_sayNumber (Ce ((21 : Int32) * (((32 : Int32) * a0) + a1)).toNatClampNeg) (0 : Int32) Te Bz Bk) ∧ (∀ u18, u18 = f_X6_sayNumber (Ce ((21 : Int32) * (((32 : Int32) * a0) + a1)).toNatClampNeg) (0 : Int32) Te Bz Bk → ((a2 < 0 → (True)) ∧ (¬ a2 < 0 → ((u18.1 ≤ a2 → (True)) ∧ (¬ u18.1 ≤ a2 → ((vp_in a2 120) ∧ (True)))))))))) ∧ (¬ (0 : Int64) ≤ (Ce ((21 : Int32) * (((32 : Int32) * a0) + a1)).toNatClampNeg) → ((S_X6_sayVoid (0 : Int32) Te) ∧ (∀ u23, u23 = f_X6_sayVoid (0 : Int32) Te → ((a2 < 0 → (True)) ∧ (¬ a2 < 0 → ((u23.1 ≤ a2 → (True)) ∧ (¬ u23.1 ≤ a2 → ((vp_in a2 120) ∧ (True)))))))))))) ∧ (¬ a0 = (4 : Int32) → ((vp_in ((21 : Int32) * (((32 : Int32) * a0) + a1)) 3360) ∧ ((S_X6_sayNumber (Ce ((21 : Int32) * (((32 : Int32) * a0) + a1)).toNatClampNeg) (0 : Int32) Te Bz Bk) ∧ (∀ u10, u10 = f_X6_sayNumber (Ce ((21 : Int32) * (((32 : Int32) * a0) + a1)).toNatClampNeg) (0 : Int32) Te Bz Bk → ((a2 < 0 → (True)) ∧ (¬ a2 < 0 → ((u10.1 ≤ a2 → (True)) ∧ (¬ u10.1 ≤ a2 → ((vp_in a2 120) ∧ (True))))))))))))))))))))
set_option maxHeartbeats 4000000 in
set_option maxRecDepth 100000 in
theorem c_X6_shown (l : Launch) (dC : Nat → ClassId) (dI : Nat → Nat → Nat) (cI cJ : ClassId) (ad : Nat → Nat) (hi : fI 17 ad) (sz : Nat) (Th : Int32) (Ce : Nat → Int64) (Le : Nat → Int32) (De : Int32) (Ke : Int32) (Kc : Nat → Int64) (Ko : Nat → Int32) (Kl : Nat → Int32) (Kd : Nat → Int32) (Ug : Nat → Int64) (Ur : Nat → Int64) (Va : Nat → Int64) (To : Int32) (Tt : Nat → Int32) (Td : Nat → Int32) (Go : Int32) (Gg : Nat → Int32) (Ga : Nat → Int32) (Be : Int32) (Bt : Nat → Int32) (Si : Int32) (Te : Nat → Int32) (Bz : Int32) (Bk : Nat → Int32) (a0 : Int32) (a1 : Int32) (a2 : Int32) (hs : S_X6_shown a0 a1 a2 Th Ce Si Te Bz Bk) : Met l yX6_shown (mW yX6_shown cX6_shown 6 (some .int)) { frames := 4, cells := 0, slots := 0, locals := 96 } (va_Pc [.ref (ad 0), .int a0, .int a1, .int a2] (fun U => U.heap.size = sz ∧ va_P (dC, dI) vwCl (wM ad cI cJ Th Ce Le De Ke Kc Ko Kl Kd Ug Ur Va To Tt Td Go Gg Ga Be Bt Si Te Bz Bk) U.heap ∧ va_K (dC, dI) vwCl [(cI, .int), (cJ, .long)] U)) (va_Qi (fun (r : Int32) (_ : Unit) => r = (f_X6_shown a0 a1 a2 Th Ce Si Te Bz Bk).1) (fun _ t => va_P (dC, dI) vwCl (wM ad cI cJ ((f_X6_shown a0 a1 a2 Th Ce Si Te Bz Bk).2.1) Ce Le De Ke Kc Ko Kl Kd Ug Ur Va To Tt Td Go Gg Ga Be Bt ((f_X6_shown a0 a1 a2 Th Ce Si Te Bz Bk).2.2.1) ((f_X6_shown a0 a1 a2 Th Ce Si Te Bz Bk).2.2.2.1) ((f_X6_shown a0 a1 a2 Th Ce Si Te Bz Bk).2.2.2.2.1) ((f_X6_shown a0 a1 a2 Th Ce Si Te Bz Bk).2.2.2.2.2)) t.heap) (fA 17 ad sz)) 0 0 (fA 17 ad sz) := by
  refine Met.ofW (cc := cX6_shown) (maxL := 6) (ret := (some .int)) (by decide) rfl ?_
  intro p e s m args below meth c s₁ B hml hv
  obtain ⟨rfl, hsz, hP, hK⟩ := hv
  have hx := B.exec
  have hb := B.bytes
  have hr := B.returns
  have hts := mW_hts (atoms_spec (ws := (mW yX6_shown cX6_shown 6 (some .int))) B.pre)
  have hown : s.vm.findClass RX6 = some m.cls := findClass_of_methodNamed B.named
  have hlocks := B.notSynchronized
  subst hsz
  have hA : ∀ (n : Nat) (q : Nat), s.heap.size ≤ n → n ≤ q → fA 17 ad s.heap.size q := fun n q h1 h2 => Or.inr (Nat.le_trans h1 h2)
  have hS : va_S (fA 17 ad s.heap.size) s.heap s.heap [] := va_S.rf
  have hA : ∀ q, s.heap.size ≤ q → (fA 17 ad s.heap.size) q := fun q h => Or.inr h
  unfold S_X6_shown at hs
  have hl := lv_entry ([.ref (ad 0), .int a0, .int a1, .int a2]) (n := 6) (Nat.le_of_ble_eq_true rfl)
  rw [lg_entry_eq]
  generalize (lg_sl ([.ref (ad 0), .int a0, .int a1, .int a2]) ++ List.replicate (6 - (lg_sl ([.ref (ad 0), .int a0, .int a1, .int a2])).length) Slot.unset).toArray = ls at hl ⊢
  have hl : lv_has ls 6 [(0, .ref (ad 0)), (1, .int a0), (2, .int a1), (3, .int a2)] := hl
  refine W_gen (fun Q9 hQ9 => ?_)
  refine lv_aload_n hx hb dX6_shown_0 rfl (lv_at hl 0 rfl) ?_
  refine lv_iload_n hx hb dX6_shown_1 rfl (lv_at hl 1 rfl) ?_
  refine q_X6_isKind hx hb hml hown hts mM_RX6_109 ⟨Nat.le_of_ble_eq_true rfl, Nat.le_of_ble_eq_true rfl⟩ ⟨Nat.le_of_ble_eq_true rfl, Nat.le_of_ble_eq_true rfl⟩ hl.1 (Nat.le_of_ble_eq_true rfl) hS dX6_shown_2 hA a0 (fun locs hS => ?_)
  refine lv_if_ne (tgt := 12) hx hb dX6_shown_5 (by decide) (fun c1 => ?_) (fun c1 => ?_)
  · have hs := hs.2 c1
    refine lv_iload_n hx hb dX6_shown_12 rfl (lv_at hl 2 rfl) ?_
    refine q_X6_isRegister hx hb hml hown hts mM_RX6_114 ⟨Nat.le_of_ble_eq_true rfl, Nat.le_of_ble_eq_true rfl⟩ ⟨Nat.le_of_ble_eq_true rfl, Nat.le_of_ble_eq_true rfl⟩ hl.1 (Nat.le_of_ble_eq_true rfl) hS dX6_shown_13 hA a1 (fun locs hS => ?_)
    refine lv_if_ne (tgt := 23) hx hb dX6_shown_16 (by decide) (fun c2 => ?_) (fun c2 => ?_)
    · have hs := hs.2 c2
      refine lv_iconst (v := 0) hx hb dX6_shown_23 (by decide) ?_
      refine va_put (D := (dC, dI)) (ci := 8) (v := .int (0 : Int32)) (ty := .int) (C := RX6) (T := TX6) (N := 24) hx hb hts iW_X6 tyX6 tyX6_ok nmX6 hown hK hP (fA_D hi rfl) hS 0 rfl rfl 0 (by decide) (hts _ mF_RX6_61) (fun _ h9 => h9) rfl (by decide +kernel) rfl rfl (Nat.le_of_ble_eq_true rfl) dX6_shown_24 (fun H locs hP _ hS => ?_)
      have hP : va_P (dC, dI) vwCl (wM ad cI cJ (0 : Int32) Ce Le De Ke Kc Ko Kl Kd Ug Ur Va To Tt Td Go Gg Ga Be Bt Si Te Bz Bk) H := hP
      refine lv_aload_n hx hb dX6_shown_27 rfl (lv_at hl 0 rfl) ?_
      refine va_get (D := (dC, dI)) (ci := 8) (v := .int (0 : Int32)) (C := RX6) (T := TX6) (N := 24) hx hb hts iW_X6 hown hK hP 0 rfl rfl 0 (by decide) (hts _ mF_RX6_61) (fun _ h9 => h9) rfl dX6_shown_28 ?_
      refine lv_if_le (tgt := 36) hx hb dX6_shown_31 (by decide) (fun c3 => ?_) (fun c3 => ?_)
      · refine lv_aload_n hx hb dX6_shown_36 rfl (lv_at hl 0 rfl) ?_
        refine lv_iconst (v := 0) hx hb dX6_shown_37 (by decide) ?_
        refine va_put (D := (dC, dI)) (ci := 8) (v := .int (0 : Int32)) (ty := .int) (C := RX6) (T := TX6) (N := 24) hx hb hts iW_X6 tyX6 tyX6_ok nmX6 hown hK hP (fA_D hi rfl) hS 0 rfl rfl 20 (by decide) (hts _ mF_RX6_186) (fun _ h9 => h9) rfl (by decide +kernel) rfl rfl (Nat.le_of_ble_eq_true rfl) dX6_shown_38 (fun H locs hP _ hS => ?_)
        have hP : va_P (dC, dI) vwCl (wM ad cI cJ (0 : Int32) Ce Le De Ke Kc Ko Kl Kd Ug Ur Va To Tt Td Go Gg Ga Be Bt (0 : Int32) Te Bz Bk) H := hP
        refine lv_bipush (v := 21) hx hb dX6_shown_41 (by decide) ?_
        refine lv_bipush (v := 32) hx hb dX6_shown_43 (by decide) ?_
        refine lv_iload_n hx hb dX6_shown_45 rfl (lv_at hl 1 rfl) ?_
        refine lv_imul hx hb dX6_shown_46 ?_
        refine lv_iload_n hx hb dX6_shown_47 rfl (lv_at hl 2 rfl) ?_
        refine lv_iadd hx hb dX6_shown_48 ?_
        refine lv_imul hx hb dX6_shown_49 ?_
        refine lv_istore (lv' := [(4, .int ((21 : Int32) * (((32 : Int32) * a0) + a1))), (0, .ref (ad 0)), (1, .int a0), (2, .int a1), (3, .int a2)]) hx hb dX6_shown_50 hl (by decide) rfl (fun ls hl => ?_)
        refine lv_iload_n hx hb dX6_shown_52 rfl (lv_at hl 2 rfl) ?_
        refine lv_iconst (v := 1) hx hb dX6_shown_53 (by decide) ?_
        refine lv_icmp_ne (tgt := 71) hx hb dX6_shown_54 (by decide) (fun c4 => ?_) (fun c4 => ?_)
        · have hs := hs.2 c4
          refine lv_iload_n hx hb dX6_shown_71 rfl (lv_at hl 2 rfl) ?_
          refine lv_iconst (v := 2) hx hb dX6_shown_72 (by decide) ?_
          refine lv_icmp_ne (tgt := 85) hx hb dX6_shown_73 (by decide) (fun c5 => ?_) (fun c5 => ?_)
          · have hs := hs.2 c5
            refine lv_iload_n hx hb dX6_shown_85 rfl (lv_at hl 2 rfl) ?_
            refine lv_iconst (v := 3) hx hb dX6_shown_86 (by decide) ?_
            refine lv_icmp_ne (tgt := 133) hx hb dX6_shown_87 (by decide) (fun c6 => ?_) (fun c6 => ?_)
            · have hs := hs.2 c6
              refine lv_iload_n hx hb dX6_shown_133 rfl (lv_at hl 2 rfl) ?_
              refine lv_iconst (v := 4) hx hb dX6_shown_134 (by decide) ?_
              refine lv_icmp_ne (tgt := 157) hx hb dX6_shown_135 (by decide) (fun c7 => ?_) (fun c7 => ?_)
              · have hs := hs.2 c7
                refine lv_aload_n hx hb dX6_shown_157 rfl (lv_at hl 1 rfl) ?_
                refine lv_aload_n hx hb dX6_shown_158 rfl (lv_at hl 1 rfl) ?_
                refine va_get (D := (dC, dI)) (ci := 8) (v := .ref (ad 1)) (C := RX6) (T := TX6) (N := 24) hx hb hts iW_X6 hown hK hP 0 rfl rfl 1 (by decide) (hts _ mF_RX6_7) (fun _ h9 => h9) rfl dX6_shown_159 ?_
                refine lv_iload hx hb dX6_shown_162 (lv_at hl 0 rfl) ?_
                obtain ⟨h8, hs⟩ := hs
                refine va_lald hx hb hK hP 1 1 rfl rfl h8 dX6_shown_164 ?_
                obtain ⟨h9, hs⟩ := hs
                obtain ⟨u10, hu10⟩ : ∃ z, z = f_X6_sayNumber (Ce ((21 : Int32) * (((32 : Int32) * a0) + a1)).toNatClampNeg) (0 : Int32) Te Bz Bk := ⟨_, rfl⟩
                have hs := hs u10 hu10
                refine q_X6_sayNumber hx hb hml hown hts mM_RX6_198 ⟨Nat.le_of_ble_eq_true rfl, Nat.le_of_ble_eq_true rfl⟩ ⟨Nat.le_of_ble_eq_true rfl, Nat.le_of_ble_eq_true rfl⟩ hl.1 (Nat.le_of_ble_eq_true rfl) hS dX6_shown_165 (fun _ h9 => fA_mono hS.1 h9) hi hK hP (Ce ((21 : Int32) * (((32 : Int32) * a0) + a1)).toNatClampNeg) h9 u10 hu10 (fun H locs hP hS => ?_)
                refine lv_iload_n hx hb dX6_shown_168 rfl (lv_at hl 4 rfl) ?_
                refine lv_if_lt (tgt := 189) hx hb dX6_shown_169 (by decide) (fun c11 => ?_) (fun c11 => ?_)
                · have hs := hs.1 c11
                  refine lv_iconst (v := (-1)) hx hb dX6_shown_189 (by decide) ?_
                  rw [hQ9]
                  have hf : f_X6_shown a0 a1 a2 Th Ce Si Te Bz Bk = ((-1 : Int32), (0 : Int32), u10.1, u10.2.1, u10.2.2.1, u10.2.2.2) := by simp only [f_X6_shown, if_neg c1, if_neg c2, if_neg c4, if_neg c5, if_neg c6, if_neg c7, ← hu10, if_pos c11]
                  exact W.iret (v := (-1 : Int32)) hx hb hr (fun t ht hW => ⟨⟨(-1 : Int32), (), rfl, by rw [hf], by rw [hf]; show va_P (dC, dI) vwCl _ t.heap; rw [ht]; exact hP⟩, hS.F ht⟩) hS.2.2 dX6_shown_190
                · have hs := hs.2 c11
                  refine lv_iload_n hx hb dX6_shown_172 rfl (lv_at hl 4 rfl) ?_
                  refine lv_aload_n hx hb dX6_shown_173 rfl (lv_at hl 1 rfl) ?_
                  refine va_get (D := (dC, dI)) (ci := 8) (v := .int u10.1) (C := RX6) (T := TX6) (N := 24) hx hb hts iW_X6 hown hK hP 0 rfl rfl 20 (by decide) (hts _ mF_RX6_186) (fun _ h9 => h9) rfl dX6_shown_174 ?_
                  refine lv_icmp_ge (tgt := 189) hx hb dX6_shown_177 (by decide) (fun c12 => ?_) (fun c12 => ?_)
                  · have hs := hs.1 c12
                    refine lv_iconst (v := (-1)) hx hb dX6_shown_189 (by decide) ?_
                    rw [hQ9]
                    have hf : f_X6_shown a0 a1 a2 Th Ce Si Te Bz Bk = ((-1 : Int32), (0 : Int32), u10.1, u10.2.1, u10.2.2.1, u10.2.2.2) := by simp only [f_X6_shown, if_neg c1, if_neg c2, if_neg c4, if_neg c5, if_neg c6, if_neg c7, ← hu10, if_neg c11, if_pos c12]
                    exact W.iret (v := (-1 : Int32)) hx hb hr (fun t ht hW => ⟨⟨(-1 : Int32), (), rfl, by rw [hf], by rw [hf]; show va_P (dC, dI) vwCl _ t.heap; rw [ht]; exact hP⟩, hS.F ht⟩) hS.2.2 dX6_shown_190
                  · have hs := hs.2 c12
                    refine lv_aload_n hx hb dX6_shown_180 rfl (lv_at hl 1 rfl) ?_
                    refine va_get (D := (dC, dI)) (ci := 8) (v := .ref (ad 15)) (C := RX6) (T := TX6) (N := 24) hx hb hts iW_X6 hown hK hP 0 rfl rfl 21 (by decide) (hts _ mF_RX6_53) (fun _ h9 => h9) rfl dX6_shown_181 ?_
                    refine lv_iload_n hx hb dX6_shown_184 rfl (lv_at hl 4 rfl) ?_
                    obtain ⟨h13, hs⟩ := hs
                    refine va_iald hx hb hK hP 15 0 rfl rfl h13 dX6_shown_185 ?_
                    refine lv_goto (tgt := 190) hx hb dX6_shown_186 (by decide) ?_
                    rw [hQ9]
                    have hf : f_X6_shown a0 a1 a2 Th Ce Si Te Bz Bk = ((u10.2.1 a2.toNatClampNeg), (0 : Int32), u10.1, u10.2.1, u10.2.2.1, u10.2.2.2) := by simp only [f_X6_shown, if_neg c1, if_neg c2, if_neg c4, if_neg c5, if_neg c6, if_neg c7, ← hu10, if_neg c11, if_neg c12]
                    exact W.iret (v := (u10.2.1 a2.toNatClampNeg)) hx hb hr (fun t ht hW => ⟨⟨(u10.2.1 a2.toNatClampNeg), (), rfl, by rw [hf], by rw [hf]; show va_P (dC, dI) vwCl _ t.heap; rw [ht]; exact hP⟩, hS.F ht⟩) hS.2.2 dX6_shown_190
              · have hs := hs.1 c7
                refine lv_aload_n hx hb dX6_shown_138 rfl (lv_at hl 1 rfl) ?_
                refine va_get (D := (dC, dI)) (ci := 8) (v := .ref (ad 1)) (C := RX6) (T := TX6) (N := 24) hx hb hts iW_X6 hown hK hP 0 rfl rfl 1 (by decide) (hts _ mF_RX6_7) (fun _ h9 => h9) rfl dX6_shown_139 ?_
                refine lv_iload hx hb dX6_shown_142 (lv_at hl 0 rfl) ?_
                obtain ⟨h14, hs⟩ := hs
                refine va_lald hx hb hK hP 1 1 rfl rfl h14 dX6_shown_144 ?_
                refine lv_lconst (v := 0) hx hb dX6_shown_145 (by decide) ?_
                refine W.lcmp hx hb dX6_shown_146 ?_
                refine lv_if_ge (tgt := 157) hx hb dX6_shown_147 (by decide) (fun c15 => ?_) (fun c15 => ?_)
                · have c15 : (0 : Int64) ≤ (Ce ((21 : Int32) * (((32 : Int32) * a0) + a1)).toNatClampNeg) := lc_ge.mp c15
                  have hs := hs.1 c15
                  refine lv_aload_n hx hb dX6_shown_157 rfl (lv_at hl 1 rfl) ?_
                  refine lv_aload_n hx hb dX6_shown_158 rfl (lv_at hl 1 rfl) ?_
                  refine va_get (D := (dC, dI)) (ci := 8) (v := .ref (ad 1)) (C := RX6) (T := TX6) (N := 24) hx hb hts iW_X6 hown hK hP 0 rfl rfl 1 (by decide) (hts _ mF_RX6_7) (fun _ h9 => h9) rfl dX6_shown_159 ?_
                  refine lv_iload hx hb dX6_shown_162 (lv_at hl 0 rfl) ?_
                  obtain ⟨h16, hs⟩ := hs
                  refine va_lald hx hb hK hP 1 1 rfl rfl h16 dX6_shown_164 ?_
                  obtain ⟨h17, hs⟩ := hs
                  obtain ⟨u18, hu18⟩ : ∃ z, z = f_X6_sayNumber (Ce ((21 : Int32) * (((32 : Int32) * a0) + a1)).toNatClampNeg) (0 : Int32) Te Bz Bk := ⟨_, rfl⟩
                  have hs := hs u18 hu18
                  refine q_X6_sayNumber hx hb hml hown hts mM_RX6_198 ⟨Nat.le_of_ble_eq_true rfl, Nat.le_of_ble_eq_true rfl⟩ ⟨Nat.le_of_ble_eq_true rfl, Nat.le_of_ble_eq_true rfl⟩ hl.1 (Nat.le_of_ble_eq_true rfl) hS dX6_shown_165 (fun _ h9 => fA_mono hS.1 h9) hi hK hP (Ce ((21 : Int32) * (((32 : Int32) * a0) + a1)).toNatClampNeg) h17 u18 hu18 (fun H locs hP hS => ?_)
                  refine lv_iload_n hx hb dX6_shown_168 rfl (lv_at hl 4 rfl) ?_
                  refine lv_if_lt (tgt := 189) hx hb dX6_shown_169 (by decide) (fun c19 => ?_) (fun c19 => ?_)
                  · have hs := hs.1 c19
                    refine lv_iconst (v := (-1)) hx hb dX6_shown_189 (by decide) ?_
                    rw [hQ9]
                    have hf : f_X6_shown a0 a1 a2 Th Ce Si Te Bz Bk = ((-1 : Int32), (0 : Int32), u18.1, u18.2.1, u18.2.2.1, u18.2.2.2) := by simp only [f_X6_shown, if_neg c1, if_neg c2, if_neg c4, if_neg c5, if_neg c6, if_pos c7, if_pos c15, ← hu18, if_pos c19]
                    exact W.iret (v := (-1 : Int32)) hx hb hr (fun t ht hW => ⟨⟨(-1 : Int32), (), rfl, by rw [hf], by rw [hf]; show va_P (dC, dI) vwCl _ t.heap; rw [ht]; exact hP⟩, hS.F ht⟩) hS.2.2 dX6_shown_190
                  · have hs := hs.2 c19
                    refine lv_iload_n hx hb dX6_shown_172 rfl (lv_at hl 4 rfl) ?_
                    refine lv_aload_n hx hb dX6_shown_173 rfl (lv_at hl 1 rfl) ?_
                    refine va_get (D := (dC, dI)) (ci := 8) (v := .int u18.1) (C := RX6) (T := TX6) (N := 24) hx hb hts iW_X6 hown hK hP 0 rfl rfl 20 (by decide) (hts _ mF_RX6_186) (fun _ h9 => h9) rfl dX6_shown_174 ?_
                    refine lv_icmp_ge (tgt := 189) hx hb dX6_shown_177 (by decide) (fun c20 => ?_) (fun c20 => ?_)
                    · have hs := hs.1 c20
                      refine lv_iconst (v := (-1)) hx hb dX6_shown_189 (by decide) ?_
                      rw [hQ9]
                      have hf : f_X6_shown a0 a1 a2 Th Ce Si Te Bz Bk = ((-1 : Int32), (0 : Int32), u18.1, u18.2.1, u18.2.2.1, u18.2.2.2) := by simp only [f_X6_shown, if_neg c1, if_neg c2, if_neg c4, if_neg c5, if_neg c6, if_pos c7, if_pos c15, ← hu18, if_neg c19, if_pos c20]
                      exact W.iret (v := (-1 : Int32)) hx hb hr (fun t ht hW => ⟨⟨(-1 : Int32), (), rfl, by rw [hf], by rw [hf]; show va_P (dC, dI) vwCl _ t.heap; rw [ht]; exact hP⟩, hS.F ht⟩) hS.2.2 dX6_shown_190
                    · have hs := hs.2 c20
                      refine lv_aload_n hx hb dX6_shown_180 rfl (lv_at hl 1 rfl) ?_
                      refine va_get (D := (dC, dI)) (ci := 8) (v := .ref (ad 15)) (C := RX6) (T := TX6) (N := 24) hx hb hts iW_X6 hown hK hP 0 rfl rfl 21 (by decide) (hts _ mF_RX6_53) (fun _ h9 => h9) rfl dX6_shown_181 ?_
                      refine lv_iload_n hx hb dX6_shown_184 rfl (lv_at hl 4 rfl) ?_
                      obtain ⟨h21, hs⟩ := hs
                      refine va_iald hx hb hK hP 15 0 rfl rfl h21 dX6_shown_185 ?_
                      refine lv_goto (tgt := 190) hx hb dX6_shown_186 (by decide) ?_
                      rw [hQ9]
                      have hf : f_X6_shown a0 a1 a2 Th Ce Si Te Bz Bk = ((u18.2.1 a2.toNatClampNeg), (0 : Int32), u18.1, u18.2.1, u18.2.2.1, u18.2.2.2) := by simp only [f_X6_shown, if_neg c1, if_neg c2, if_neg c4, if_neg c5, if_neg c6, if_pos c7, if_pos c15, ← hu18, if_neg c19, if_neg c20]
                      exact W.iret (v := (u18.2.1 a2.toNatClampNeg)) hx hb hr (fun t ht hW => ⟨⟨(u18.2.1 a2.toNatClampNeg), (), rfl, by rw [hf], by rw [hf]; show va_P (dC, dI) vwCl _ t.heap; rw [ht]; exact hP⟩, hS.F ht⟩) hS.2.2 dX6_shown_190
                · have c15 : ¬ (0 : Int64) ≤ (Ce ((21 : Int32) * (((32 : Int32) * a0) + a1)).toNatClampNeg) := fun z => c15 (lc_ge.mpr z)
                  have hs := hs.2 c15
                  refine lv_aload_n hx hb dX6_shown_150 rfl (lv_at hl 1 rfl) ?_
                  obtain ⟨h22, hs⟩ := hs
                  obtain ⟨u23, hu23⟩ : ∃ z, z = f_X6_sayVoid (0 : Int32) Te := ⟨_, rfl⟩
                  have hs := hs u23 hu23
                  refine q_X6_sayVoid hx hb hml hown hts mM_RX6_219 ⟨Nat.le_of_ble_eq_true rfl, Nat.le_of_ble_eq_true rfl⟩ ⟨Nat.le_of_ble_eq_true rfl, Nat.le_of_ble_eq_true rfl⟩ hl.1 (Nat.le_of_ble_eq_true rfl) hS dX6_shown_151 (fun _ h9 => fA_mono hS.1 h9) hi hK hP h22 u23 hu23 (fun H locs hP hS => ?_)
                  refine lv_goto (tgt := 168) hx hb dX6_shown_154 (by decide) ?_
                  refine lv_iload_n hx hb dX6_shown_168 rfl (lv_at hl 4 rfl) ?_
                  refine lv_if_lt (tgt := 189) hx hb dX6_shown_169 (by decide) (fun c24 => ?_) (fun c24 => ?_)
                  · have hs := hs.1 c24
                    refine lv_iconst (v := (-1)) hx hb dX6_shown_189 (by decide) ?_
                    rw [hQ9]
                    have hf : f_X6_shown a0 a1 a2 Th Ce Si Te Bz Bk = ((-1 : Int32), (0 : Int32), u23.1, u23.2, Bz, Bk) := by simp only [f_X6_shown, if_neg c1, if_neg c2, if_neg c4, if_neg c5, if_neg c6, if_pos c7, if_neg c15, ← hu23, if_pos c24]
                    exact W.iret (v := (-1 : Int32)) hx hb hr (fun t ht hW => ⟨⟨(-1 : Int32), (), rfl, by rw [hf], by rw [hf]; show va_P (dC, dI) vwCl _ t.heap; rw [ht]; exact hP⟩, hS.F ht⟩) hS.2.2 dX6_shown_190
                  · have hs := hs.2 c24
                    refine lv_iload_n hx hb dX6_shown_172 rfl (lv_at hl 4 rfl) ?_
                    refine lv_aload_n hx hb dX6_shown_173 rfl (lv_at hl 1 rfl) ?_
                    refine va_get (D := (dC, dI)) (ci := 8) (v := .int u23.1) (C := RX6) (T := TX6) (N := 24) hx hb hts iW_X6 hown hK hP 0 rfl rfl 20 (by decide) (hts _ mF_RX6_186) (fun _ h9 => h9) rfl dX6_shown_174 ?_
                    refine lv_icmp_ge (tgt := 189) hx hb dX6_shown_177 (by decide) (fun c25 => ?_) (fun c25 => ?_)
                    · have hs := hs.1 c25
                      refine lv_iconst (v := (-1)) hx hb dX6_shown_189 (by decide) ?_
                      rw [hQ9]
                      have hf : f_X6_shown a0 a1 a2 Th Ce Si Te Bz Bk = ((-1 : Int32), (0 : Int32), u23.1, u23.2, Bz, Bk) := by simp only [f_X6_shown, if_neg c1, if_neg c2, if_neg c4, if_neg c5, if_neg c6, if_pos c7, if_neg c15, ← hu23, if_neg c24, if_pos c25]
                      exact W.iret (v := (-1 : Int32)) hx hb hr (fun t ht hW => ⟨⟨(-1 : Int32), (), rfl, by rw [hf], by rw [hf]; show va_P (dC, dI) vwCl _ t.heap; rw [ht]; exact hP⟩, hS.F ht⟩) hS.2.2 dX6_shown_190
                    · have hs := hs.2 c25
                      refine lv_aload_n hx hb dX6_shown_180 rfl (lv_at hl 1 rfl) ?_
                      refine va_get (D := (dC, dI)) (ci := 8) (v := .ref (ad 15)) (C := RX6) (T := TX6) (N := 24) hx hb hts iW_X6 hown hK hP 0 rfl rfl 21 (by decide) (hts _ mF_RX6_53) (fun _ h9 => h9) rfl dX6_shown_181 ?_
                      refine lv_iload_n hx hb dX6_shown_184 rfl (lv_at hl 4 rfl) ?_
                      obtain ⟨h26, hs⟩ := hs
                      refine va_iald hx hb hK hP 15 0 rfl rfl h26 dX6_shown_185 ?_
                      refine lv_goto (tgt := 190) hx hb dX6_shown_186 (by decide) ?_
                      rw [hQ9]
                      have hf : f_X6_shown a0 a1 a2 Th Ce Si Te Bz Bk = ((u23.2 a2.toNatClampNeg), (0 : Int32), u23.1, u23.2, Bz, Bk) := by simp only [f_X6_shown, if_neg c1, if_neg c2, if_neg c4, if_neg c5, if_neg c6, if_pos c7, if_neg c15, ← hu23, if_neg c24, if_neg c25]
                      exact W.iret (v := (u23.2 a2.toNatClampNeg)) hx hb hr (fun t ht hW => ⟨⟨(u23.2 a2.toNatClampNeg), (), rfl, by rw [hf], by rw [hf]; show va_P (dC, dI) vwCl _ t.heap; rw [ht]; exact hP⟩, hS.F ht⟩) hS.2.2 dX6_shown_190
            · have hs := hs.1 c6
              refine lv_iconst (v := 0) hx hb dX6_shown_90 (by decide) ?_
              refine lv_istore (lv' := [(5, .int (0 : Int32)), (4, .int ((21 : Int32) * (((32 : Int32) * a0) + a1))), (0, .ref (ad 0)), (1, .int a0), (2, .int a1), (3, .int a2)]) hx hb dX6_shown_91 hl (by decide) rfl (fun ls hl => ?_)
              obtain ⟨h28, hs⟩ := hs
              obtain ⟨u27, hu27⟩ : ∃ z, z = L_X6_shown_93 22 (0 : Int32) (0 : Int32) Te ((21 : Int32) * (((32 : Int32) * a0) + a1)) Ce := ⟨_, rfl⟩
              have hs := hs u27 hu27
              have hex29 : ∀ (H : Heap) (locs : List Loc) (ls : Array Slot), va_P (dC, dI) vwCl (wM ad cI cJ (0 : Int32) Ce Le De Ke Kc Ko Kl Kd Ug Ur Va To Tt Td Go Gg Ga Be Bt u27.2.1 u27.2.2 Bz Bk) H → va_S (fA 17 ad s.heap.size) s.heap H locs → lv_has ls 6 [(5, .int u27.1), (4, .int ((21 : Int32) * (((32 : Int32) * a0) + a1))), (0, .ref (ad 0)), (1, .int a0), (2, .int a1), (3, .int a2)] → W p l e (headSpec (mW yX6_shown cX6_shown 6 (some .int)) { frames := 4, cells := 0, slots := 0, locals := 96 }).room s m ([.ref (ad 0), .int a0, .int a1, .int a2] : List Value).toArray below meth c H locs 0 0 Q9 (F0 m 130 ls []) := by
                intro H locs ls hP hS hl
                refine lv_goto (tgt := 168) hx hb dX6_shown_130 (by decide) ?_
                refine lv_iload_n hx hb dX6_shown_168 rfl (lv_at hl 5 rfl) ?_
                refine lv_if_lt (tgt := 189) hx hb dX6_shown_169 (by decide) (fun c30 => ?_) (fun c30 => ?_)
                · have hs := hs.1 c30
                  refine lv_iconst (v := (-1)) hx hb dX6_shown_189 (by decide) ?_
                  rw [hQ9]
                  have hf : f_X6_shown a0 a1 a2 Th Ce Si Te Bz Bk = ((-1 : Int32), (0 : Int32), u27.2.1, u27.2.2, Bz, Bk) := by simp only [f_X6_shown, if_neg c1, if_neg c2, if_neg c4, if_neg c5, if_pos c6, ← hu27, if_pos c30]
                  exact W.iret (v := (-1 : Int32)) hx hb hr (fun t ht hW => ⟨⟨(-1 : Int32), (), rfl, by rw [hf], by rw [hf]; show va_P (dC, dI) vwCl _ t.heap; rw [ht]; exact hP⟩, hS.F ht⟩) hS.2.2 dX6_shown_190
                · have hs := hs.2 c30
                  refine lv_iload_n hx hb dX6_shown_172 rfl (lv_at hl 5 rfl) ?_
                  refine lv_aload_n hx hb dX6_shown_173 rfl (lv_at hl 2 rfl) ?_
                  refine va_get (D := (dC, dI)) (ci := 8) (v := .int u27.2.1) (C := RX6) (T := TX6) (N := 24) hx hb hts iW_X6 hown hK hP 0 rfl rfl 20 (by decide) (hts _ mF_RX6_186) (fun _ h9 => h9) rfl dX6_shown_174 ?_
                  refine lv_icmp_ge (tgt := 189) hx hb dX6_shown_177 (by decide) (fun c31 => ?_) (fun c31 => ?_)
                  · have hs := hs.1 c31
                    refine lv_iconst (v := (-1)) hx hb dX6_shown_189 (by decide) ?_
                    rw [hQ9]
                    have hf : f_X6_shown a0 a1 a2 Th Ce Si Te Bz Bk = ((-1 : Int32), (0 : Int32), u27.2.1, u27.2.2, Bz, Bk) := by simp only [f_X6_shown, if_neg c1, if_neg c2, if_neg c4, if_neg c5, if_pos c6, ← hu27, if_neg c30, if_pos c31]
                    exact W.iret (v := (-1 : Int32)) hx hb hr (fun t ht hW => ⟨⟨(-1 : Int32), (), rfl, by rw [hf], by rw [hf]; show va_P (dC, dI) vwCl _ t.heap; rw [ht]; exact hP⟩, hS.F ht⟩) hS.2.2 dX6_shown_190
                  · have hs := hs.2 c31
                    refine lv_aload_n hx hb dX6_shown_180 rfl (lv_at hl 2 rfl) ?_
                    refine va_get (D := (dC, dI)) (ci := 8) (v := .ref (ad 15)) (C := RX6) (T := TX6) (N := 24) hx hb hts iW_X6 hown hK hP 0 rfl rfl 21 (by decide) (hts _ mF_RX6_53) (fun _ h9 => h9) rfl dX6_shown_181 ?_
                    refine lv_iload_n hx hb dX6_shown_184 rfl (lv_at hl 5 rfl) ?_
                    obtain ⟨h32, hs⟩ := hs
                    refine va_iald hx hb hK hP 15 0 rfl rfl h32 dX6_shown_185 ?_
                    refine lv_goto (tgt := 190) hx hb dX6_shown_186 (by decide) ?_
                    rw [hQ9]
                    have hf : f_X6_shown a0 a1 a2 Th Ce Si Te Bz Bk = ((u27.2.2 a2.toNatClampNeg), (0 : Int32), u27.2.1, u27.2.2, Bz, Bk) := by simp only [f_X6_shown, if_neg c1, if_neg c2, if_neg c4, if_neg c5, if_pos c6, ← hu27, if_neg c30, if_neg c31]
                    exact W.iret (v := (u27.2.2 a2.toNatClampNeg)) hx hb hr (fun t ht hW => ⟨⟨(u27.2.2 a2.toNatClampNeg), (), rfl, by rw [hf], by rw [hf]; show va_P (dC, dI) vwCl _ t.heap; rw [ht]; exact hP⟩, hS.F ht⟩) hS.2.2 dX6_shown_190
              have hlp33 : ∀ (n : Nat) (x5v : Int32) (Siv : Int32) (Tev : Nat → Int32) (H : Heap) (locs : List Loc) (ls : Array Slot), SL_X6_shown_93 n x5v Siv Tev ((21 : Int32) * (((32 : Int32) * a0) + a1)) Ce → u27 = L_X6_shown_93 n x5v Siv Tev ((21 : Int32) * (((32 : Int32) * a0) + a1)) Ce → va_P (dC, dI) vwCl (wM ad cI cJ (0 : Int32) Ce Le De Ke Kc Ko Kl Kd Ug Ur Va To Tt Td Go Gg Ga Be Bt Siv Tev Bz Bk) H → va_S (fA 17 ad s.heap.size) s.heap H locs → lv_has ls 6 [(5, .int x5v), (4, .int ((21 : Int32) * (((32 : Int32) * a0) + a1))), (0, .ref (ad 0)), (1, .int a0), (2, .int a1), (3, .int a2)] → W p l e (headSpec (mW yX6_shown cX6_shown 6 (some .int)) { frames := 4, cells := 0, slots := 0, locals := 96 }).room s m ([.ref (ad 0), .int a0, .int a1, .int a2] : List Value).toArray below meth c H locs 0 0 Q9 (F0 m 93 ls []) := by
                intro n
                induction n with
                | zero => intro x5v Siv Tev H locs ls hs; rw [SL_X6_shown_93] at hs; exact hs.elim
                | succ n ih =>
                  intro x5v Siv Tev H locs ls hs hq34 hP hS hl
                  rw [SL_X6_shown_93] at hs
                  refine lv_iload hx hb dX6_shown_93 (lv_at hl 0 rfl) ?_
                  refine lv_i2l hx hb dX6_shown_95 rfl ?_
                  refine lv_aload_n hx hb dX6_shown_96 rfl (lv_at hl 2 rfl) ?_
                  refine va_get (D := (dC, dI)) (ci := 8) (v := .ref (ad 1)) (C := RX6) (T := TX6) (N := 24) hx hb hts iW_X6 hown hK hP 0 rfl rfl 1 (by decide) (hts _ mF_RX6_7) (fun _ h9 => h9) rfl dX6_shown_97 ?_
                  refine lv_iload hx hb dX6_shown_100 (lv_at hl 1 rfl) ?_
                  obtain ⟨h35, hs⟩ := hs
                  refine va_lald hx hb hK hP 1 1 rfl rfl h35 dX6_shown_102 ?_
                  refine W.lcmp hx hb dX6_shown_103 ?_
                  refine lv_if_ge (tgt := 130) hx hb dX6_shown_104 (by decide) (fun c36 => ?_) (fun c36 => ?_)
                  · have c36 : (Ce ((21 : Int32) * (((32 : Int32) * a0) + a1)).toNatClampNeg) ≤ x5v.toInt64 := lc_ge.mp c36
                    have hs := hs.1 c36
                    have he37 : u27 = (x5v, Siv, Tev) := by rw [hq34, L_X6_shown_93]; simp only [if_pos c36, ↓reduceIte]
                    exact hex29 _ _ _ (by first | exact hP | (rw [he37]; exact hP)) hS (by first | exact lv_sub hl [0, 1, 2, 3, 4, 5] rfl | (rw [he37]; exact lv_sub hl [0, 1, 2, 3, 4, 5] rfl))
                  · have c36 : ¬ (Ce ((21 : Int32) * (((32 : Int32) * a0) + a1)).toNatClampNeg) ≤ x5v.toInt64 := fun z => c36 (lc_ge.mpr z)
                    have hs := hs.2 c36
                    refine lv_aload_n hx hb dX6_shown_107 rfl (lv_at hl 2 rfl) ?_
                    refine lv_aload_n hx hb dX6_shown_108 rfl (lv_at hl 2 rfl) ?_
                    refine va_get (D := (dC, dI)) (ci := 8) (v := .ref (ad 1)) (C := RX6) (T := TX6) (N := 24) hx hb hts iW_X6 hown hK hP 0 rfl rfl 1 (by decide) (hts _ mF_RX6_7) (fun _ h9 => h9) rfl dX6_shown_109 ?_
                    refine lv_iload hx hb dX6_shown_112 (lv_at hl 1 rfl) ?_
                    refine lv_iconst (v := 1) hx hb dX6_shown_114 (by decide) ?_
                    refine lv_iadd hx hb dX6_shown_115 ?_
                    refine lv_iload hx hb dX6_shown_116 (lv_at hl 0 rfl) ?_
                    refine lv_iadd hx hb dX6_shown_118 ?_
                    obtain ⟨h38, hs⟩ := hs
                    refine va_lald hx hb hK hP 1 1 rfl rfl h38 dX6_shown_119 ?_
                    refine lv_l2i hx hb dX6_shown_120 rfl ?_
                    obtain ⟨h39, hs⟩ := hs
                    obtain ⟨u40, hu40⟩ : ∃ z, z = f_X6_say ((Ce ((((21 : Int32) * (((32 : Int32) * a0) + a1)) + (1 : Int32)) + x5v).toNatClampNeg).toInt32) Siv Tev := ⟨_, rfl⟩
                    have hs := hs u40 hu40
                    refine q_X6_say hx hb hml hown hts mM_RX6_189 ⟨Nat.le_of_ble_eq_true rfl, Nat.le_of_ble_eq_true rfl⟩ ⟨Nat.le_of_ble_eq_true rfl, Nat.le_of_ble_eq_true rfl⟩ hl.1 (Nat.le_of_ble_eq_true rfl) hS dX6_shown_121 (fun _ h9 => fA_mono hS.1 h9) hi hK hP ((Ce ((((21 : Int32) * (((32 : Int32) * a0) + a1)) + (1 : Int32)) + x5v).toNatClampNeg).toInt32) h39 u40 hu40 (fun H locs hP hS => ?_)
                    refine lv_iinc (v := (x5v + 1)) (lv' := [(5, .int (x5v + 1)), (4, .int ((21 : Int32) * (((32 : Int32) * a0) + a1))), (0, .ref (ad 0)), (1, .int a0), (2, .int a1), (3, .int a2)]) hx hb dX6_shown_124 hl (k := 0) rfl rfl (by decide) rfl (fun ls hl => ?_)
                    refine lv_goto (tgt := 93) hx hb dX6_shown_127 (by decide) ?_
                    exact ih (x5v + 1) u40.1 u40.2 _ _ _ hs (by rw [hq34, L_X6_shown_93]; simp only [if_neg c36, ← hu40, ↓reduceIte]) hP hS (lv_sub hl [0, 1, 2, 3, 4, 5] rfl)
              exact hlp33 22 (0 : Int32) (0 : Int32) Te _ _ _ h28 hu27 hP hS (lv_sub hl [0, 1, 2, 3, 4, 5] rfl)
          · have hs := hs.1 c5
            refine lv_aload_n hx hb dX6_shown_76 rfl (lv_at hl 1 rfl) ?_
            refine lv_iload hx hb dX6_shown_77 (lv_at hl 0 rfl) ?_
            obtain ⟨h41, hs⟩ := hs
            obtain ⟨u42, hu42⟩ : ∃ z, z = f_X6_sayGlue ((21 : Int32) * (((32 : Int32) * a0) + a1)) Ce (0 : Int32) Te Bz Bk := ⟨_, rfl⟩
            have hs := hs u42 hu42
            refine q_X6_sayGlue hx hb hml hown hts mM_RX6_216 ⟨Nat.le_of_ble_eq_true rfl, Nat.le_of_ble_eq_true rfl⟩ ⟨Nat.le_of_ble_eq_true rfl, Nat.le_of_ble_eq_true rfl⟩ hl.1 (Nat.le_of_ble_eq_true rfl) hS dX6_shown_79 (fun _ h9 => fA_mono hS.1 h9) hi hK hP ((21 : Int32) * (((32 : Int32) * a0) + a1)) h41 u42 hu42 (fun H locs hP hS => ?_)
            refine lv_goto (tgt := 168) hx hb dX6_shown_82 (by decide) ?_
            refine lv_iload_n hx hb dX6_shown_168 rfl (lv_at hl 4 rfl) ?_
            refine lv_if_lt (tgt := 189) hx hb dX6_shown_169 (by decide) (fun c43 => ?_) (fun c43 => ?_)
            · have hs := hs.1 c43
              refine lv_iconst (v := (-1)) hx hb dX6_shown_189 (by decide) ?_
              rw [hQ9]
              have hf : f_X6_shown a0 a1 a2 Th Ce Si Te Bz Bk = ((-1 : Int32), (0 : Int32), u42.1, u42.2.1, u42.2.2.1, u42.2.2.2) := by simp only [f_X6_shown, if_neg c1, if_neg c2, if_neg c4, if_pos c5, ← hu42, if_pos c43]
              exact W.iret (v := (-1 : Int32)) hx hb hr (fun t ht hW => ⟨⟨(-1 : Int32), (), rfl, by rw [hf], by rw [hf]; show va_P (dC, dI) vwCl _ t.heap; rw [ht]; exact hP⟩, hS.F ht⟩) hS.2.2 dX6_shown_190
            · have hs := hs.2 c43
              refine lv_iload_n hx hb dX6_shown_172 rfl (lv_at hl 4 rfl) ?_
              refine lv_aload_n hx hb dX6_shown_173 rfl (lv_at hl 1 rfl) ?_
              refine va_get (D := (dC, dI)) (ci := 8) (v := .int u42.1) (C := RX6) (T := TX6) (N := 24) hx hb hts iW_X6 hown hK hP 0 rfl rfl 20 (by decide) (hts _ mF_RX6_186) (fun _ h9 => h9) rfl dX6_shown_174 ?_
              refine lv_icmp_ge (tgt := 189) hx hb dX6_shown_177 (by decide) (fun c44 => ?_) (fun c44 => ?_)
              · have hs := hs.1 c44
                refine lv_iconst (v := (-1)) hx hb dX6_shown_189 (by decide) ?_
                rw [hQ9]
                have hf : f_X6_shown a0 a1 a2 Th Ce Si Te Bz Bk = ((-1 : Int32), (0 : Int32), u42.1, u42.2.1, u42.2.2.1, u42.2.2.2) := by simp only [f_X6_shown, if_neg c1, if_neg c2, if_neg c4, if_pos c5, ← hu42, if_neg c43, if_pos c44]
                exact W.iret (v := (-1 : Int32)) hx hb hr (fun t ht hW => ⟨⟨(-1 : Int32), (), rfl, by rw [hf], by rw [hf]; show va_P (dC, dI) vwCl _ t.heap; rw [ht]; exact hP⟩, hS.F ht⟩) hS.2.2 dX6_shown_190
              · have hs := hs.2 c44
                refine lv_aload_n hx hb dX6_shown_180 rfl (lv_at hl 1 rfl) ?_
                refine va_get (D := (dC, dI)) (ci := 8) (v := .ref (ad 15)) (C := RX6) (T := TX6) (N := 24) hx hb hts iW_X6 hown hK hP 0 rfl rfl 21 (by decide) (hts _ mF_RX6_53) (fun _ h9 => h9) rfl dX6_shown_181 ?_
                refine lv_iload_n hx hb dX6_shown_184 rfl (lv_at hl 4 rfl) ?_
                obtain ⟨h45, hs⟩ := hs
                refine va_iald hx hb hK hP 15 0 rfl rfl h45 dX6_shown_185 ?_
                refine lv_goto (tgt := 190) hx hb dX6_shown_186 (by decide) ?_
                rw [hQ9]
                have hf : f_X6_shown a0 a1 a2 Th Ce Si Te Bz Bk = ((u42.2.1 a2.toNatClampNeg), (0 : Int32), u42.1, u42.2.1, u42.2.2.1, u42.2.2.2) := by simp only [f_X6_shown, if_neg c1, if_neg c2, if_neg c4, if_pos c5, ← hu42, if_neg c43, if_neg c44]
                exact W.iret (v := (u42.2.1 a2.toNatClampNeg)) hx hb hr (fun t ht hW => ⟨⟨(u42.2.1 a2.toNatClampNeg), (), rfl, by rw [hf], by rw [hf]; show va_P (dC, dI) vwCl _ t.heap; rw [ht]; exact hP⟩, hS.F ht⟩) hS.2.2 dX6_shown_190
        · have hs := hs.1 c4
          refine lv_aload_n hx hb dX6_shown_57 rfl (lv_at hl 1 rfl) ?_
          refine lv_aload_n hx hb dX6_shown_58 rfl (lv_at hl 1 rfl) ?_
          refine va_get (D := (dC, dI)) (ci := 8) (v := .ref (ad 1)) (C := RX6) (T := TX6) (N := 24) hx hb hts iW_X6 hown hK hP 0 rfl rfl 1 (by decide) (hts _ mF_RX6_7) (fun _ h9 => h9) rfl dX6_shown_59 ?_
          refine lv_iload hx hb dX6_shown_62 (lv_at hl 0 rfl) ?_
          obtain ⟨h46, hs⟩ := hs
          refine va_lald hx hb hK hP 1 1 rfl rfl h46 dX6_shown_64 ?_
          obtain ⟨h47, hs⟩ := hs
          obtain ⟨u48, hu48⟩ : ∃ z, z = f_X6_sayLength (Ce ((21 : Int32) * (((32 : Int32) * a0) + a1)).toNatClampNeg) (0 : Int32) Te Bz Bk := ⟨_, rfl⟩
          have hs := hs u48 hu48
          refine q_X6_sayLength hx hb hml hown hts mM_RX6_206 ⟨Nat.le_of_ble_eq_true rfl, Nat.le_of_ble_eq_true rfl⟩ ⟨Nat.le_of_ble_eq_true rfl, Nat.le_of_ble_eq_true rfl⟩ hl.1 (Nat.le_of_ble_eq_true rfl) hS dX6_shown_65 (fun _ h9 => fA_mono hS.1 h9) hi hK hP (Ce ((21 : Int32) * (((32 : Int32) * a0) + a1)).toNatClampNeg) h47 u48 hu48 (fun H locs hP hS => ?_)
          refine lv_goto (tgt := 168) hx hb dX6_shown_68 (by decide) ?_
          refine lv_iload_n hx hb dX6_shown_168 rfl (lv_at hl 4 rfl) ?_
          refine lv_if_lt (tgt := 189) hx hb dX6_shown_169 (by decide) (fun c49 => ?_) (fun c49 => ?_)
          · have hs := hs.1 c49
            refine lv_iconst (v := (-1)) hx hb dX6_shown_189 (by decide) ?_
            rw [hQ9]
            have hf : f_X6_shown a0 a1 a2 Th Ce Si Te Bz Bk = ((-1 : Int32), (0 : Int32), u48.1, u48.2.1, u48.2.2.1, u48.2.2.2) := by simp only [f_X6_shown, if_neg c1, if_neg c2, if_pos c4, ← hu48, if_pos c49]
            exact W.iret (v := (-1 : Int32)) hx hb hr (fun t ht hW => ⟨⟨(-1 : Int32), (), rfl, by rw [hf], by rw [hf]; show va_P (dC, dI) vwCl _ t.heap; rw [ht]; exact hP⟩, hS.F ht⟩) hS.2.2 dX6_shown_190
          · have hs := hs.2 c49
            refine lv_iload_n hx hb dX6_shown_172 rfl (lv_at hl 4 rfl) ?_
            refine lv_aload_n hx hb dX6_shown_173 rfl (lv_at hl 1 rfl) ?_
            refine va_get (D := (dC, dI)) (ci := 8) (v := .int u48.1) (C := RX6) (T := TX6) (N := 24) hx hb hts iW_X6 hown hK hP 0 rfl rfl 20 (by decide) (hts _ mF_RX6_186) (fun _ h9 => h9) rfl dX6_shown_174 ?_
            refine lv_icmp_ge (tgt := 189) hx hb dX6_shown_177 (by decide) (fun c50 => ?_) (fun c50 => ?_)
            · have hs := hs.1 c50
              refine lv_iconst (v := (-1)) hx hb dX6_shown_189 (by decide) ?_
              rw [hQ9]
              have hf : f_X6_shown a0 a1 a2 Th Ce Si Te Bz Bk = ((-1 : Int32), (0 : Int32), u48.1, u48.2.1, u48.2.2.1, u48.2.2.2) := by simp only [f_X6_shown, if_neg c1, if_neg c2, if_pos c4, ← hu48, if_neg c49, if_pos c50]
              exact W.iret (v := (-1 : Int32)) hx hb hr (fun t ht hW => ⟨⟨(-1 : Int32), (), rfl, by rw [hf], by rw [hf]; show va_P (dC, dI) vwCl _ t.heap; rw [ht]; exact hP⟩, hS.F ht⟩) hS.2.2 dX6_shown_190
            · have hs := hs.2 c50
              refine lv_aload_n hx hb dX6_shown_180 rfl (lv_at hl 1 rfl) ?_
              refine va_get (D := (dC, dI)) (ci := 8) (v := .ref (ad 15)) (C := RX6) (T := TX6) (N := 24) hx hb hts iW_X6 hown hK hP 0 rfl rfl 21 (by decide) (hts _ mF_RX6_53) (fun _ h9 => h9) rfl dX6_shown_181 ?_
              refine lv_iload_n hx hb dX6_shown_184 rfl (lv_at hl 4 rfl) ?_
              obtain ⟨h51, hs⟩ := hs
              refine va_iald hx hb hK hP 15 0 rfl rfl h51 dX6_shown_185 ?_
              refine lv_goto (tgt := 190) hx hb dX6_shown_186 (by decide) ?_
              rw [hQ9]
              have hf : f_X6_shown a0 a1 a2 Th Ce Si Te Bz Bk = ((u48.2.1 a2.toNatClampNeg), (0 : Int32), u48.1, u48.2.1, u48.2.2.1, u48.2.2.2) := by simp only [f_X6_shown, if_neg c1, if_neg c2, if_pos c4, ← hu48, if_neg c49, if_neg c50]
              exact W.iret (v := (u48.2.1 a2.toNatClampNeg)) hx hb hr (fun t ht hW => ⟨⟨(u48.2.1 a2.toNatClampNeg), (), rfl, by rw [hf], by rw [hf]; show va_P (dC, dI) vwCl _ t.heap; rw [ht]; exact hP⟩, hS.F ht⟩) hS.2.2 dX6_shown_190
      · exact absurd (by decide) c3
    · have hs := hs.1 c2
      refine lv_iconst (v := 2) hx hb dX6_shown_19 (by decide) ?_
      refine lv_goto (tgt := 24) hx hb dX6_shown_20 (by decide) ?_
      refine va_put (D := (dC, dI)) (ci := 8) (v := .int (2 : Int32)) (ty := .int) (C := RX6) (T := TX6) (N := 24) hx hb hts iW_X6 tyX6 tyX6_ok nmX6 hown hK hP (fA_D hi rfl) hS 0 rfl rfl 0 (by decide) (hts _ mF_RX6_61) (fun _ h9 => h9) rfl (by decide +kernel) rfl rfl (Nat.le_of_ble_eq_true rfl) dX6_shown_24 (fun H locs hP _ hS => ?_)
      have hP : va_P (dC, dI) vwCl (wM ad cI cJ (2 : Int32) Ce Le De Ke Kc Ko Kl Kd Ug Ur Va To Tt Td Go Gg Ga Be Bt Si Te Bz Bk) H := hP
      refine lv_aload_n hx hb dX6_shown_27 rfl (lv_at hl 0 rfl) ?_
      refine va_get (D := (dC, dI)) (ci := 8) (v := .int (2 : Int32)) (C := RX6) (T := TX6) (N := 24) hx hb hts iW_X6 hown hK hP 0 rfl rfl 0 (by decide) (hts _ mF_RX6_61) (fun _ h9 => h9) rfl dX6_shown_28 ?_
      refine lv_if_le (tgt := 36) hx hb dX6_shown_31 (by decide) (fun c52 => ?_) (fun c52 => ?_)
      · exact absurd c52 (by decide)
      · refine lv_iconst (v := 0) hx hb dX6_shown_34 (by decide) ?_
        rw [hQ9]
        have hf : f_X6_shown a0 a1 a2 Th Ce Si Te Bz Bk = ((0 : Int32), (2 : Int32), Si, Te, Bz, Bk) := by simp only [f_X6_shown, if_neg c1, if_pos c2]
        exact W.iret (v := (0 : Int32)) hx hb hr (fun t ht hW => ⟨⟨(0 : Int32), (), rfl, by rw [hf], by rw [hf]; show va_P (dC, dI) vwCl _ t.heap; rw [ht]; exact hP⟩, hS.F ht⟩) hS.2.2 dX6_shown_35
  · have hs := hs.1 c1
    refine lv_iconst (v := 1) hx hb dX6_shown_8 (by decide) ?_
    refine lv_goto (tgt := 24) hx hb dX6_shown_9 (by decide) ?_
    refine va_put (D := (dC, dI)) (ci := 8) (v := .int (1 : Int32)) (ty := .int) (C := RX6) (T := TX6) (N := 24) hx hb hts iW_X6 tyX6 tyX6_ok nmX6 hown hK hP (fA_D hi rfl) hS 0 rfl rfl 0 (by decide) (hts _ mF_RX6_61) (fun _ h9 => h9) rfl (by decide +kernel) rfl rfl (Nat.le_of_ble_eq_true rfl) dX6_shown_24 (fun H locs hP _ hS => ?_)
    have hP : va_P (dC, dI) vwCl (wM ad cI cJ (1 : Int32) Ce Le De Ke Kc Ko Kl Kd Ug Ur Va To Tt Td Go Gg Ga Be Bt Si Te Bz Bk) H := hP
    refine lv_aload_n hx hb dX6_shown_27 rfl (lv_at hl 0 rfl) ?_
    refine va_get (D := (dC, dI)) (ci := 8) (v := .int (1 : Int32)) (C := RX6) (T := TX6) (N := 24) hx hb hts iW_X6 hown hK hP 0 rfl rfl 0 (by decide) (hts _ mF_RX6_61) (fun _ h9 => h9) rfl dX6_shown_28 ?_
    refine lv_if_le (tgt := 36) hx hb dX6_shown_31 (by decide) (fun c53 => ?_) (fun c53 => ?_)
    · exact absurd c53 (by decide)
    · refine lv_iconst (v := 0) hx hb dX6_shown_34 (by decide) ?_
      rw [hQ9]
      have hf : f_X6_shown a0 a1 a2 Th Ce Si Te Bz Bk = ((0 : Int32), (1 : Int32), Si, Te, Bz, Bk) := by simp only [f_X6_shown, if_pos c1]
      exact W.iret (v := (0 : Int32)) hx hb hr (fun t ht hW => ⟨⟨(0 : Int32), (), rfl, by rw [hf], by rw [hf]; show va_P (dC, dI) vwCl _ t.heap; rw [ht]; exact hP⟩, hS.F ht⟩) hS.2.2 dX6_shown_35
theorem q_X6_shown {p : Program} {l : Launch} {e : Env} {R : Room} {s : State} {m : MethodId} {args : Array Value} {below : List Frame} {meth : Method} {c : Code} {H : Heap} {locs : List Loc} {cells slots : Nat} {Q : State → Prop} {pc : Nat} {ls : Array Slot} {rest : List Value} {cc : ByteArray} {nL idx : Nat} {own : String} {A0 : Nat → Prop} {dC : Nat → ClassId} {dI : Nat → Nat → Nat} {cI cJ : ClassId} {ad : Nat → Nat} {Th : Int32} {Ce : Nat → Int64} {Le : Nat → Int32} {De : Int32} {Ke : Int32} {Kc : Nat → Int64} {Ko : Nat → Int32} {Kl : Nat → Int32} {Kd : Nat → Int32} {Ug : Nat → Int64} {Ur : Nat → Int64} {Va : Nat → Int64} {To : Int32} {Tt : Nat → Int32} {Td : Nat → Int32} {Go : Int32} {Gg : Nat → Int32} {Ga : Nat → Int32} {Be : Int32} {Bt : Nat → Int32} {Si : Int32} {Te : Nat → Int32} {Bz : Int32} {Bk : Nat → Int32} (hx : p.tables.exec = Jvm.exec) (hb : c.code = cc) (hml : c.maxLocals = nL) (hown : s.vm.findClass own = some m.cls) (hts : ∀ w ∈ bigW, w.before args s = true) (hlk : Cond.methodLink own idx yX6_shown ∈ bigW) (hR : 5 ≤ R.frames ∧ 121 ≤ R.locals) (hf : cells + 0 ≤ R.cells ∧ slots + 0 ≤ R.slots) (hz : ls.size = nL) (hw : (rest.map fun v => v.category).sum ≤ 8) (hS : va_S A0 s.heap H locs) (hd : decode cc pc = .ok (.invokevirtual idx, 3)) (hA : ∀ q, fA 17 ad H.size q → A0 q) (hi : fI 17 ad) (hK : va_K (dC, dI) vwCl [(cI, .int), (cJ, .long)] s) (hP : va_P (dC, dI) vwCl (wM ad cI cJ Th Ce Le De Ke Kc Ko Kl Kd Ug Ur Va To Tt Td Go Gg Ga Be Bt Si Te Bz Bk) H) (a0 : Int32) (a1 : Int32) (a2 : Int32) (hs : S_X6_shown a0 a1 a2 Th Ce Si Te Bz Bk)  (u : Int32 × Int32 × Int32 × (Nat → Int32) × Int32 × (Nat → Int32)) (hu : u = f_X6_shown a0 a1 a2 Th Ce Si Te Bz Bk) (k : ∀ (H1 : Heap) (locs1 : List Loc), va_P (dC, dI) vwCl (wM ad cI cJ u.2.1 Ce Le De Ke Kc Ko Kl Kd Ug Ur Va To Tt Td Go Gg Ga Be Bt u.2.2.1 u.2.2.2.1 u.2.2.2.2.1 u.2.2.2.2.2) H1 → va_S A0 s.heap H1 locs1 → W p l e R s m args below meth c H1 locs1 (cells + 0) (slots + 0) Q (F0 m (pc + 3) ls (.int u.1 :: rest))) : W p l e R s m args below meth c H locs cells slots Q (F0 m pc ls (.int a2 :: .int a1 :: .int a0 :: .ref (ad 0) :: rest)) := by
  subst hu
  exact va_calli (va_runV (As := [.int a0, .int a1, .int a2]) (rest := rest) ⟨hx, hb, hml, hown, hts⟩ (c_X6_shown l dC dI cI cJ ad hi H.size Th Ce Le De Ke Kc Ko Kl Kd Ug Ur Va To Tt Td Go Gg Ga Be Bt Si Te Bz Bk a0 a1 a2 hs) (kV 3 hts hlk mI_X6_shown mN_RX6 mY_X6_shown mV_X6_shown rfl rfl (by decide +kernel) hR) ⟨fun a U g mk q => ⟨q.1, q.2.1, q.2.2.1, va_K.moved (u := U) (U := U.calling g mk a) (Vm.Alike.refl U.vm) q.2.2.2⟩, va_recv hK hP (ci := 8) (q0 := 0) rfl rfl, fun U hU hW => ⟨rfl, by rw [hU], by rw [hU]; exact hP, va_K.moved hW.alike hK⟩⟩ rfl rfl hz rfl (lv_room hw) hd hf) hS (fun q _ h => hA q h) (fun q h => hA q h) (fun r u t H1 locs1 ht hvm hw9 hB hz1 hk1 hS1 => by
    subst hw9
    exact k H1 locs1 (by rw [← ht]; exact hB) hS1)
theorem qf_X6_shown {p : Program} {l : Launch} {e : Env} {R : Room} {s : State} {m : MethodId} {args : Array Value} {below : List Frame} {meth : Method} {c : Code} {H : Heap} {locs : List Loc} {cells slots : Nat} {Q : State → Prop} {pc : Nat} {ls : Array Slot} {rest : List Value} {cc : ByteArray} {nL idx : Nat} {own : String} {A0 : Nat → Prop} {dC : Nat → ClassId} {dI : Nat → Nat → Nat} {cI cJ : ClassId} {ad : Nat → Nat} {Th : Int32} {Ce : Nat → Int64} {Le : Nat → Int32} {De : Int32} {Ke : Int32} {Kc : Nat → Int64} {Ko : Nat → Int32} {Kl : Nat → Int32} {Kd : Nat → Int32} {Ug : Nat → Int64} {Ur : Nat → Int64} {Va : Nat → Int64} {To : Int32} {Tt : Nat → Int32} {Td : Nat → Int32} {Go : Int32} {Gg : Nat → Int32} {Ga : Nat → Int32} {Be : Int32} {Bt : Nat → Int32} {Si : Int32} {Te : Nat → Int32} {Bz : Int32} {Bk : Nat → Int32} (hx : p.tables.exec = Jvm.exec) (hb : c.code = cc) (hml : c.maxLocals = nL) (hown : s.vm.findClass own = some m.cls) (hts : ∀ w ∈ bigW, w.before args s = true) (hlk : Cond.methodLink own idx yX6_shown ∈ bigW) (hR : 5 ≤ R.frames ∧ 121 ≤ R.locals) (hf : cells + 0 ≤ R.cells ∧ slots + 0 ≤ R.slots) (hz : ls.size = nL) (hw : (rest.map fun v => v.category).sum ≤ 8) (hS : va_S A0 s.heap H locs) (hd : decode cc pc = .ok (.invokevirtual idx, 3)) (hA : ∀ q, fA 17 ad H.size q → A0 q) (hi : fI 17 ad) (hK : va_K (dC, dI) vwCl [(cI, .int), (cJ, .long)] s) (hP : va_P (dC, dI) vwCl (wM ad cI cJ Th Ce Le De Ke Kc Ko Kl Kd Ug Ur Va To Tt Td Go Gg Ga Be Bt Si Te Bz Bk) H) (a0 : Int32) (a1 : Int32) (a2 : Int32) (hs : S_X6_shown a0 a1 a2 Th Ce Si Te Bz Bk)  (u : Int32 × Int32 × Int32 × (Nat → Int32) × Int32 × (Nat → Int32)) (hu : u = f_X6_shown a0 a1 a2 Th Ce Si Te Bz Bk) (k : ∀ (H1 : Heap) (locs1 : List Loc), va_P (dC, dI) vwCl (wM ad cI cJ u.2.1 Ce Le De Ke Kc Ko Kl Kd Ug Ur Va To Tt Td Go Gg Ga Be Bt u.2.2.1 u.2.2.2.1 u.2.2.2.2.1 u.2.2.2.2.2) H1 → va_S A0 s.heap H1 locs1 → (∀ q : Nat, q < H.size → ¬ fA 17 ad H.size q → H1[q]? = H[q]?) → H.size ≤ H1.size → W p l e R s m args below meth c H1 locs1 (cells + 0) (slots + 0) Q (F0 m (pc + 3) ls (.int u.1 :: rest))) : W p l e R s m args below meth c H locs cells slots Q (F0 m pc ls (.int a2 :: .int a1 :: .int a0 :: .ref (ad 0) :: rest)) := by
  subst hu
  exact va_calli (va_runV (As := [.int a0, .int a1, .int a2]) (rest := rest) ⟨hx, hb, hml, hown, hts⟩ (c_X6_shown l dC dI cI cJ ad hi H.size Th Ce Le De Ke Kc Ko Kl Kd Ug Ur Va To Tt Td Go Gg Ga Be Bt Si Te Bz Bk a0 a1 a2 hs) (kV 3 hts hlk mI_X6_shown mN_RX6 mY_X6_shown mV_X6_shown rfl rfl (by decide +kernel) hR) ⟨fun a U g mk q => ⟨q.1, q.2.1, q.2.2.1, va_K.moved (u := U) (U := U.calling g mk a) (Vm.Alike.refl U.vm) q.2.2.2⟩, va_recv hK hP (ci := 8) (q0 := 0) rfl rfl, fun U hU hW => ⟨rfl, by rw [hU], by rw [hU]; exact hP, va_K.moved hW.alike hK⟩⟩ rfl rfl hz rfl (lv_room hw) hd hf) hS (fun q _ h => hA q h) (fun q h => hA q h) (fun r u t H1 locs1 ht hvm hw9 hB hz1 hk1 hS1 => by
    subst hw9
    exact k H1 locs1 (by rw [← ht]; exact hB) hS1 hk1 hz1)
