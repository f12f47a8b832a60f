def f_X5_glue (a0 : Int64) (a1 : Int64) (a2 : Int32) (a3 : Int64) (a4 : Int32) (Wg : Nat → Int64) : Nat × (Nat → Int64) := (if (f_X5_isLength a0) = 0 then (1, Wg) else (if (f_X5_isLength a1) = 0 then (1, Wg) else (if (f_X5_isLength a3) = 0 then (1, Wg) else (if (f_X5_within a2.toInt64 (0 : Int64) (3 : Int64)) = 0 then (1, Wg) else (if (f_X5_within a4.toInt64 (0 : Int64) (3 : Int64)) = 0 then (1, Wg) else (0, (vp_updL (vp_updL (vp_updL (vp_updL (vp_updL Wg (0 : Int32).toNatClampNeg a0) (1 : Int32).toNatClampNeg a1) (2 : Int32).toNatClampNeg a2.toInt64) (3 : Int32).toNatClampNeg a3) (4 : Int32).toNatClampNeg a4.toInt64)))))))
def S_X5_glue (a0 : Int64) (a1 : Int64) (a2 : Int32) (a3 : Int64) (a4 : Int32) (Wg : Nat → Int64) : Prop := ((f_X5_isLength a0) = 0 → (True)) ∧ (¬ (f_X5_isLength a0) = 0 → (((f_X5_isLength a1) = 0 → (True)) ∧ (¬ (f_X5_isLength a1) = 0 → (((f_X5_isLength a3) = 0 → (True)) ∧ (¬ (f_X5_isLength a3) = 0 → (((f_X5_within a2.toInt64 (0 : Int64) (3 : Int64)) = 0 → (True)) ∧ (¬ (f_X5_within a2.toInt64 (0 : Int64) (3 : Int64)) = 0 → (((f_X5_within a4.toInt64 (0 : Int64) (3 : Int64)) = 0 → (True)) ∧ (¬ (f_X5_within a4.toInt64 (0 : Int64) (3 : Int64)) = 0 → ((vp_in (0 : Int32) 5) ∧ ((vp_in (1 : Int32) 5) ∧ ((vp_in (2 : Int32) 5) ∧ ((vp_in (3 : Int32) 5) ∧ ((vp_in (4 : Int32) 5) ∧ (True)))))))))))))))
set_option maxHeartbeats 4000000 in
set_option maxRecDepth 100000 in
theorem c_X5_glue (l : Launch) (hst : l.stackTraces = false) (dC : Nat → ClassId) (dI : Nat → Nat → Nat) (cI cJ : ClassId) (ad : Nat → Nat) (hi : fI 23 ad) (sz : Nat) (Bc : Nat → Int64) (Bl : Nat → Int32) (Pk : Nat → Int32) (Pr : Nat → Int32) (Pl : Nat → Int32) (Pc : Nat → Int64) (Pm : Int32) (Gf : Nat → Int32) (Gt : Nat → Int32) (Gx : Nat → Int32) (Gd : Int32) (Gm : Int32) (Ek : Nat → Int32) (Er : Nat → Int32) (Ea : Nat → Int32) (Ex : Nat → Int32) (Em : Int32) (Eb : Int32) (Et : Int32) (Ss : Nat → Int32) (Sm : Int32) (Wg : Nat → Int64) (Wr : Nat → Int64) (Md : Nat → Int64) (a0 : Int64) (a1 : Int64) (a2 : Int32) (a3 : Int64) (a4 : Int32) (hs : S_X5_glue a0 a1 a2 a3 a4 Wg) : vx_Met l yX5_glue (mW yX5_glue cX5_glue 9 none) { frames := 6, cells := 1, slots := 6, locals := 92 } (va_Pc [.ref (ad 0), .long a0, .long a1, .int a2, .long a3, .int a4] (fun U => U.heap.size = sz ∧ va_P (dC, dI) vwCl (wC ad cI cJ Bc Bl Pk Pr Pl Pc Pm Gf Gt Gx Gd Gm Ek Er Ea Ex Em Eb Et Ss Sm Wg Wr Md) U.heap ∧ va_K (dC, dI) vwCl [(cI, .int), (cJ, .long)] U ∧ cxt (fA 23 ad sz) U U.heap)) (va_Qv (fun (_ : Unit) => (f_X5_glue a0 a1 a2 a3 a4 Wg).1 = 0) (fun _ t => va_P (dC, dI) vwCl (wC ad cI cJ Bc Bl Pk Pr Pl Pc Pm Gf Gt Gx Gd Gm Ek Er Ea Ex Em Eb Et Ss Sm ((f_X5_glue a0 a1 a2 a3 a4 Wg).2) Wr Md) t.heap) (fA 23 ad sz)) (vx_X (fun _ : Unit => ¬ (f_X5_glue a0 a1 a2 a3 a4 Wg).1 = 0) (fun E _ t => E = exN ((f_X5_glue a0 a1 a2 a3 a4 Wg).1) ∧ va_P (dC, dI) vwCl (wC ad cI cJ Bc Bl Pk Pr Pl Pc Pm Gf Gt Gx Gd Gm Ek Er Ea Ex Em Eb Et Ss Sm ((f_X5_glue a0 a1 a2 a3 a4 Wg).2) Wr Md) t.heap) (fA 23 ad sz)) 1 6 (fA 23 ad sz) := by
  refine vx_ofW (cc := cX5_glue) (maxL := 9) (ret := none) (by decide) rfl ?_
  intro p e s m args below meth c s₁ B hml ht hv
  obtain ⟨rfl, hsz, hP, hK, hC⟩ := hv
  have hx := B.exec
  have hb := B.bytes
  have hr := B.returns
  have hts := mW_hts (atoms_spec (ws := (mW yX5_glue cX5_glue 9 none)) B.pre)
  have hown : s.vm.findClass RX5 = some m.cls := findClass_of_methodNamed B.named
  have hlocks := B.notSynchronized
  subst hsz
  have hA : ∀ (n : Nat) (q : Nat), s.heap.size ≤ n → n ≤ q → fA 23 ad s.heap.size q := fun n q h1 h2 => Or.inr (Nat.le_trans h1 h2)
  have hS : va_S (fA 23 ad s.heap.size) s.heap s.heap [] := va_S.rf
  have hA : ∀ q, s.heap.size ≤ q → (fA 23 ad s.heap.size) q := fun q h => Or.inr h
  unfold S_X5_glue at hs
  have hl := lv_entry ([.ref (ad 0), .long a0, .long a1, .int a2, .long a3, .int a4]) (n := 9) (Nat.le_of_ble_eq_true rfl)
  rw [lg_entry_eq]
  generalize (lg_sl ([.ref (ad 0), .long a0, .long a1, .int a2, .long a3, .int a4]) ++ List.replicate (9 - (lg_sl ([.ref (ad 0), .long a0, .long a1, .int a2, .long a3, .int a4])).length) Slot.unset).toArray = ls at hl ⊢
  have hl : lv_has ls 9 [(0, .ref (ad 0)), (1, .long a0), (3, .long a1), (5, .int a2), (6, .long a3), (8, .int a4)] := hl
  refine W_gen (fun Q9 hQ9 => ?_)
  refine lv_lload_n hx hb dX5_glue_0 rfl (lv_at hl 1 rfl) ?_
  refine q_X5_isLength hx hb hml hown hts mM_RX5_58 ⟨Nat.le_of_ble_eq_true rfl, Nat.le_of_ble_eq_true rfl⟩ ⟨Nat.le_of_ble_eq_true rfl, Nat.le_of_ble_eq_true rfl⟩ hl.1 (Nat.le_of_ble_eq_true rfl) hS dX5_glue_1 hA a0 (fun locs hS => ?_)
  refine lv_if_eq (tgt := 22) hx hb dX5_glue_4 (by decide) (fun c1 => ?_) (fun c1 => ?_)
  · have hs := hs.1 c1
    rw [hQ9]
    have hf : f_X5_glue a0 a1 a2 a3 a4 Wg = (1, Wg) := by simp only [f_X5_glue, if_pos c1]
    obtain ⟨sa2, hsa2⟩ := hC.str 1 _ rfl
    refine vx_throwS (mc := 1) (ms := 6) (ik := 62) (ic := 66) (is := 64) (own := RX5) (cls := x_IAE) (text := "a LENGTH beyond the bounds") (names := x_nam) hx hb hst hown (by decide) nm_x (hts _ mC_RX5_62) (hts _ mN_IllegalArgumentException) hsa2 (xw_IAE hts hC) xg_IAE hC.1 hC.2.1 hS (by rw [hml]; exact hl.1) dX5_glue_22 dX5_glue_25 dX5_glue_26 dX5_glue_28 dX5_glue_31 (fun x hx => (ht x hx).elim) (Nat.le_of_ble_eq_true rfl) (Nat.le_of_ble_eq_true rfl) (Nat.le_of_ble_eq_true rfl) (Nat.le_of_ble_eq_true rfl) hlocks (fun t hv hz hk => ⟨(), by rw [hf]; exact (by decide : ¬ (1 : Nat) = 0), ⟨by rw [hf]; rfl, by rw [hf]; exact hP.kept (fun k z hkz => hk z.1 (hP k z hkz).lt)⟩, ⟨Nat.le_trans hS.1 hz, fun q h1 h2 => (hk q (Nat.lt_of_lt_of_le h1 hS.1)).trans (hS.2.1 q h1 h2)⟩⟩) hS.2.2 (Nat.le_of_ble_eq_true rfl) (Nat.le_of_ble_eq_true rfl)
  · have hs := hs.2 c1
    refine lv_lload_n hx hb dX5_glue_7 rfl (lv_at hl 2 rfl) ?_
    refine q_X5_isLength hx hb hml hown hts mM_RX5_58 ⟨Nat.le_of_ble_eq_true rfl, Nat.le_of_ble_eq_true rfl⟩ ⟨Nat.le_of_ble_eq_true rfl, Nat.le_of_ble_eq_true rfl⟩ hl.1 (Nat.le_of_ble_eq_true rfl) hS dX5_glue_8 hA a1 (fun locs hS => ?_)
    refine lv_if_eq (tgt := 22) hx hb dX5_glue_11 (by decide) (fun c3 => ?_) (fun c3 => ?_)
    · have hs := hs.1 c3
      rw [hQ9]
      have hf : f_X5_glue a0 a1 a2 a3 a4 Wg = (1, Wg) := by simp only [f_X5_glue, if_neg c1, if_pos c3]
      obtain ⟨sa4, hsa4⟩ := hC.str 1 _ rfl
      refine vx_throwS (mc := 1) (ms := 6) (ik := 62) (ic := 66) (is := 64) (own := RX5) (cls := x_IAE) (text := "a LENGTH beyond the bounds") (names := x_nam) hx hb hst hown (by decide) nm_x (hts _ mC_RX5_62) (hts _ mN_IllegalArgumentException) hsa4 (xw_IAE hts hC) xg_IAE hC.1 hC.2.1 hS (by rw [hml]; exact hl.1) dX5_glue_22 dX5_glue_25 dX5_glue_26 dX5_glue_28 dX5_glue_31 (fun x hx => (ht x hx).elim) (Nat.le_of_ble_eq_true rfl) (Nat.le_of_ble_eq_true rfl) (Nat.le_of_ble_eq_true rfl) (Nat.le_of_ble_eq_true rfl) hlocks (fun t hv hz hk => ⟨(), by rw [hf]; exact (by decide : ¬ (1 : Nat) = 0), ⟨by rw [hf]; rfl, by rw [hf]; exact hP.kept (fun k z hkz => hk z.1 (hP k z hkz).lt)⟩, ⟨Nat.le_trans hS.1 hz, fun q h1 h2 => (hk q (Nat.lt_of_lt_of_le h1 hS.1)).trans (hS.2.1 q h1 h2)⟩⟩) hS.2.2 (Nat.le_of_ble_eq_true rfl) (Nat.le_of_ble_eq_true rfl)
    · have hs := hs.2 c3
      refine lv_lload hx hb dX5_glue_14 (lv_at hl 4 rfl) ?_
      refine q_X5_isLength hx hb hml hown hts mM_RX5_58 ⟨Nat.le_of_ble_eq_true rfl, Nat.le_of_ble_eq_true rfl⟩ ⟨Nat.le_of_ble_eq_true rfl, Nat.le_of_ble_eq_true rfl⟩ hl.1 (Nat.le_of_ble_eq_true rfl) hS dX5_glue_16 hA a3 (fun locs hS => ?_)
      refine lv_if_ne (tgt := 32) hx hb dX5_glue_19 (by decide) (fun c5 => ?_) (fun c5 => ?_)
      · have hs := hs.2 c5
        refine lv_iload hx hb dX5_glue_32 (lv_at hl 3 rfl) ?_
        refine lv_i2l hx hb dX5_glue_34 rfl ?_
        refine lv_lconst (v := 0) hx hb dX5_glue_35 (by decide) ?_
        refine lv_ldc2 hx hb hown (hts _ mK_RX5_69) dX5_glue_36 ?_
        refine q_X5_within hx hb hml hown hts mM_RX5_71 ⟨Nat.le_of_ble_eq_true rfl, Nat.le_of_ble_eq_true rfl⟩ ⟨Nat.le_of_ble_eq_true rfl, Nat.le_of_ble_eq_true rfl⟩ hl.1 (Nat.le_of_ble_eq_true rfl) hS dX5_glue_39 hA a2.toInt64 (0 : Int64) (3 : Int64) (fun locs hS => ?_)
        refine lv_if_eq (tgt := 58) hx hb dX5_glue_42 (by decide) (fun c6 => ?_) (fun c6 => ?_)
        · have hs := hs.1 c6
          rw [hQ9]
          have hf : f_X5_glue a0 a1 a2 a3 a4 Wg = (1, Wg) := by simp only [f_X5_glue, if_neg c1, if_neg c3, if_neg c5, if_pos c6]
          obtain ⟨sa7, hsa7⟩ := hC.str 2 _ rfl
          refine vx_throwS (mc := 1) (ms := 6) (ik := 62) (ic := 66) (is := 75) (own := RX5) (cls := x_IAE) (text := "no such ORDER") (names := x_nam) hx hb hst hown (by decide) nm_x (hts _ mC_RX5_62) (hts _ mN_IllegalArgumentException) hsa7 (xw_IAE hts hC) xg_IAE hC.1 hC.2.1 hS (by rw [hml]; exact hl.1) dX5_glue_58 dX5_glue_61 dX5_glue_62 dX5_glue_64 dX5_glue_67 (fun x hx => (ht x hx).elim) (Nat.le_of_ble_eq_true rfl) (Nat.le_of_ble_eq_true rfl) (Nat.le_of_ble_eq_true rfl) (Nat.le_of_ble_eq_true rfl) hlocks (fun t hv hz hk => ⟨(), by rw [hf]; exact (by decide : ¬ (1 : Nat) = 0), ⟨by rw [hf]; rfl, by rw [hf]; exact hP.kept (fun k z hkz => hk z.1 (hP k z hkz).lt)⟩, ⟨Nat.le_trans hS.1 hz, fun q h1 h2 => (hk q (Nat.lt_of_lt_of_le h1 hS.1)).trans (hS.2.1 q h1 h2)⟩⟩) hS.2.2 (Nat.le_of_ble_eq_true rfl) (Nat.le_of_ble_eq_true rfl)
        · have hs := hs.2 c6
          refine lv_iload hx hb dX5_glue_45 (lv_at hl 5 rfl) ?_
          refine lv_i2l hx hb dX5_glue_47 rfl ?_
          refine lv_lconst (v := 0) hx hb dX5_glue_48 (by decide) ?_
          refine lv_ldc2 hx hb hown (hts _ mK_RX5_69) dX5_glue_49 ?_
          refine q_X5_within hx hb hml hown hts mM_RX5_71 ⟨Nat.le_of_ble_eq_true rfl, Nat.le_of_ble_eq_true rfl⟩ ⟨Nat.le_of_ble_eq_true rfl, Nat.le_of_ble_eq_true rfl⟩ hl.1 (Nat.le_of_ble_eq_true rfl) hS dX5_glue_52 hA a4.toInt64 (0 : Int64) (3 : Int64) (fun locs hS => ?_)
          refine lv_if_ne (tgt := 68) hx hb dX5_glue_55 (by decide) (fun c8 => ?_) (fun c8 => ?_)
          · have hs := hs.2 c8
            refine lv_aload_n hx hb dX5_glue_68 rfl (lv_at hl 0 rfl) ?_
            refine va_get (D := (dC, dI)) (ci := 7) (v := .ref (ad 20)) (C := RX5) (T := TX5) (N := 8) hx hb hts iW_X5 hown hK hP 0 rfl rfl 5 (by decide) (hts _ mF_RX5_44) (fun _ h9 => h9) rfl dX5_glue_69 ?_
            refine lv_iconst (v := 0) hx hb dX5_glue_72 (by decide) ?_
            refine lv_lload_n hx hb dX5_glue_73 rfl (lv_at hl 1 rfl) ?_
            obtain ⟨h9, hs⟩ := hs
            refine va_last hx hb hK hP (fA_D hi rfl) hS 20 1 rfl rfl h9 dX5_glue_74 (fun H locs hP _ hS => ?_)
            have hP : va_P (dC, dI) vwCl (wC ad cI cJ Bc Bl Pk Pr Pl Pc Pm Gf Gt Gx Gd Gm Ek Er Ea Ex Em Eb Et Ss Sm (vp_updL Wg (0 : Int32).toNatClampNeg a0) Wr Md) H := hP
            refine lv_aload_n hx hb dX5_glue_75 rfl (lv_at hl 0 rfl) ?_
            refine va_get (D := (dC, dI)) (ci := 7) (v := .ref (ad 20)) (C := RX5) (T := TX5) (N := 8) hx hb hts iW_X5 hown hK hP 0 rfl rfl 5 (by decide) (hts _ mF_RX5_44) (fun _ h9 => h9) rfl dX5_glue_76 ?_
            refine lv_iconst (v := 1) hx hb dX5_glue_79 (by decide) ?_
            refine lv_lload_n hx hb dX5_glue_80 rfl (lv_at hl 2 rfl) ?_
            obtain ⟨h10, hs⟩ := hs
            refine va_last hx hb hK hP (fA_D hi rfl) hS 20 1 rfl rfl h10 dX5_glue_81 (fun H locs hP _ hS => ?_)
            have hP : va_P (dC, dI) vwCl (wC ad cI cJ Bc Bl Pk Pr Pl Pc Pm Gf Gt Gx Gd Gm Ek Er Ea Ex Em Eb Et Ss Sm (vp_updL (vp_updL Wg (0 : Int32).toNatClampNeg a0) (1 : Int32).toNatClampNeg a1) Wr Md) H := hP
            refine lv_aload_n hx hb dX5_glue_82 rfl (lv_at hl 0 rfl) ?_
            refine va_get (D := (dC, dI)) (ci := 7) (v := .ref (ad 20)) (C := RX5) (T := TX5) (N := 8) hx hb hts iW_X5 hown hK hP 0 rfl rfl 5 (by decide) (hts _ mF_RX5_44) (fun _ h9 => h9) rfl dX5_glue_83 ?_
            refine lv_iconst (v := 2) hx hb dX5_glue_86 (by decide) ?_
            refine lv_iload hx hb dX5_glue_87 (lv_at hl 3 rfl) ?_
            refine lv_i2l hx hb dX5_glue_89 rfl ?_
            obtain ⟨h11, hs⟩ := hs
            refine va_last hx hb hK hP (fA_D hi rfl) hS 20 1 rfl rfl h11 dX5_glue_90 (fun H locs hP _ hS => ?_)
            have hP : va_P (dC, dI) vwCl (wC ad cI cJ Bc Bl Pk Pr Pl Pc Pm Gf Gt Gx Gd Gm Ek Er Ea Ex Em Eb Et Ss Sm (vp_updL (vp_updL (vp_updL Wg (0 : Int32).toNatClampNeg a0) (1 : Int32).toNatClampNeg a1) (2 : Int32).toNatClampNeg a2.toInt64) Wr Md) H := hP
            refine lv_aload_n hx hb dX5_glue_91 rfl (lv_at hl 0 rfl) ?_
            refine va_get (D := (dC, dI)) (ci := 7) (v := .ref (ad 20)) (C := RX5) (T := TX5) (N := 8) hx hb hts iW_X5 hown hK hP 0 rfl rfl 5 (by decide) (hts _ mF_RX5_44) (fun _ h9 => h9) rfl dX5_glue_92 ?_
            refine lv_iconst (v := 3) hx hb dX5_glue_95 (by decide) ?_
            refine lv_lload hx hb dX5_glue_96 (lv_at hl 4 rfl) ?_
            obtain ⟨h12, hs⟩ := hs
            refine va_last hx hb hK hP (fA_D hi rfl) hS 20 1 rfl rfl h12 dX5_glue_98 (fun H locs hP _ hS => ?_)
            have hP : va_P (dC, dI) vwCl (wC ad cI cJ Bc Bl Pk Pr Pl Pc Pm Gf Gt Gx Gd Gm Ek Er Ea Ex Em Eb Et Ss Sm (vp_updL (vp_updL (vp_updL (vp_updL Wg (0 : Int32).toNatClampNeg a0) (1 : Int32).toNatClampNeg a1) (2 : Int32).toNatClampNeg a2.toInt64) (3 : Int32).toNatClampNeg a3) Wr Md) H := hP
            refine lv_aload_n hx hb dX5_glue_99 rfl (lv_at hl 0 rfl) ?_
            refine va_get (D := (dC, dI)) (ci := 7) (v := .ref (ad 20)) (C := RX5) (T := TX5) (N := 8) hx hb hts iW_X5 hown hK hP 0 rfl rfl 5 (by decide) (hts _ mF_RX5_44) (fun _ h9 => h9) rfl dX5_glue_100 ?_
            refine lv_iconst (v := 4) hx hb dX5_glue_103 (by decide) ?_
            refine lv_iload hx hb dX5_glue_104 (lv_at hl 5 rfl) ?_
            refine lv_i2l hx hb dX5_glue_106 rfl ?_
            obtain ⟨h13, hs⟩ := hs
            refine va_last hx hb hK hP (fA_D hi rfl) hS 20 1 rfl rfl h13 dX5_glue_107 (fun H locs hP _ hS => ?_)
            have hP : va_P (dC, dI) vwCl (wC ad cI cJ Bc Bl Pk Pr Pl Pc Pm Gf Gt Gx Gd Gm Ek Er Ea Ex Em Eb Et Ss Sm (vp_updL (vp_updL (vp_updL (vp_updL (vp_updL Wg (0 : Int32).toNatClampNeg a0) (1 : Int32).toNatClampNeg a1) (2 : Int32).toNatClampNeg a2.toInt64) (3 : Int32).toNatClampNeg a3) (4 : Int32).toNatClampNeg a4.toInt64) Wr Md) H := hP
            rw [hQ9]
            have hf : f_X5_glue a0 a1 a2 a3 a4 Wg = (0, (vp_updL (vp_updL (vp_updL (vp_updL (vp_updL Wg (0 : Int32).toNatClampNeg a0) (1 : Int32).toNatClampNeg a1) (2 : Int32).toNatClampNeg a2.toInt64) (3 : Int32).toNatClampNeg a3) (4 : Int32).toNatClampNeg a4.toInt64)) := by simp only [f_X5_glue, if_neg c1, if_neg c3, if_neg c5, if_neg c6, if_neg c8]
            refine vx_ret ?_
            refine W.widen (k := 1) (n := 6) (Nat.le_of_ble_eq_true rfl) (Nat.le_of_ble_eq_true rfl) ?_
            exact W.vret hx hb hr (fun t ht hW => ⟨⟨(), rfl, by rw [hf], by rw [hf]; show va_P (dC, dI) vwCl _ t.heap; rw [ht]; exact hP⟩, hS.F ht⟩) hS.2.2 dX5_glue_108
          · have hs := hs.1 c8
            rw [hQ9]
            have hf : f_X5_glue a0 a1 a2 a3 a4 Wg = (1, Wg) := by simp only [f_X5_glue, if_neg c1, if_neg c3, if_neg c5, if_neg c6, if_pos c8]
            obtain ⟨sa14, hsa14⟩ := hC.str 2 _ rfl
            refine vx_throwS (mc := 1) (ms := 6) (ik := 62) (ic := 66) (is := 75) (own := RX5) (cls := x_IAE) (text := "no such ORDER") (names := x_nam) hx hb hst hown (by decide) nm_x (hts _ mC_RX5_62) (hts _ mN_IllegalArgumentException) hsa14 (xw_IAE hts hC) xg_IAE hC.1 hC.2.1 hS (by rw [hml]; exact hl.1) dX5_glue_58 dX5_glue_61 dX5_glue_62 dX5_glue_64 dX5_glue_67 (fun x hx => (ht x hx).elim) (Nat.le_of_ble_eq_true rfl) (Nat.le_of_ble_eq_true rfl) (Nat.le_of_ble_eq_true rfl) (Nat.le_of_ble_eq_true rfl) hlocks (fun t hv hz hk => ⟨(), by rw [hf]; exact (by decide : ¬ (1 : Nat) = 0), ⟨by rw [hf]; rfl, by rw [hf]; exact hP.kept (fun k z hkz => hk z.1 (hP k z hkz).lt)⟩, ⟨Nat.le_trans hS.1 hz, fun q h1 h2 => (hk q (Nat.lt_of_lt_of_le h1 hS.1)).trans (hS.2.1 q h1 h2)⟩⟩) hS.2.2 (Nat.le_of_ble_eq_true rfl) (Nat.le_of_ble_eq_true rfl)
      · have hs := hs.1 c5
        rw [hQ9]
        have hf : f_X5_glue a0 a1 a2 a3 a4 Wg = (1, Wg) := by simp only [f_X5_glue, if_neg c1, if_neg c3, if_pos c5]
        obtain ⟨sa15, hsa15⟩ := hC.str 1 _ rfl
        refine vx_throwS (mc := 1) (ms := 6) (ik := 62) (ic := 66) (is := 64) (own := RX5) (cls := x_IAE) (text := "a LENGTH beyond the bounds") (names := x_nam) hx hb hst hown (by decide) nm_x (hts _ mC_RX5_62) (hts _ mN_IllegalArgumentException) hsa15 (xw_IAE hts hC) xg_IAE hC.1 hC.2.1 hS (by rw [hml]; exact hl.1) dX5_glue_22 dX5_glue_25 dX5_glue_26 dX5_glue_28 dX5_glue_31 (fun x hx => (ht x hx).elim) (Nat.le_of_ble_eq_true rfl) (Nat.le_of_ble_eq_true rfl) (Nat.le_of_ble_eq_true rfl) (Nat.le_of_ble_eq_true rfl) hlocks (fun t hv hz hk => ⟨(), by rw [hf]; exact (by decide : ¬ (1 : Nat) = 0), ⟨by rw [hf]; rfl, by rw [hf]; exact hP.kept (fun k z hkz => hk z.1 (hP k z hkz).lt)⟩, ⟨Nat.le_trans hS.1 hz, fun q h1 h2 => (hk q (Nat.lt_of_lt_of_le h1 hS.1)).trans (hS.2.1 q h1 h2)⟩⟩) hS.2.2 (Nat.le_of_ble_eq_true rfl) (Nat.le_of_ble_eq_true rfl)
theorem q_X5_glue {p : Program} {l : Launch} {e : Env} {R : Room} {s : State} {m : MethodId} {args : Array Value} {below : List Frame} {meth : Method} {c : Code} {H : Heap} {locs : List Loc} {cells slots : Nat} {Q : State → Prop} {pc : Nat} {ls : Array Slot} {rest : List Value} {cc : ByteArray} {nL idx : Nat} {own : String} {A0 : Nat → Prop} {dC : Nat → ClassId} {dI : Nat → Nat → Nat} {cI cJ : ClassId} {ad : Nat → Nat} {Bc : Nat → Int64} {Bl : Nat → Int32} {Pk : Nat → Int32} {Pr : Nat → Int32} {Pl : Nat → Int32} {Pc : Nat → Int64} {Pm : Int32} {Gf : Nat → Int32} {Gt : Nat → Int32} {Gx : Nat → Int32} {Gd : Int32} {Gm : Int32} {Ek : Nat → Int32} {Er : Nat → Int32} {Ea : Nat → Int32} {Ex : Nat → Int32} {Em : Int32} {Eb : Int32} {Et : Int32} {Ss : Nat → Int32} {Sm : Int32} {Wg : Nat → Int64} {Wr : Nat → Int64} {Md : Nat → Int64} (hst : l.stackTraces = false) (hx : p.tables.exec = Jvm.exec) (hb : c.code = cc) (hml : c.maxLocals = nL) (hown : s.vm.findClass own = some m.cls) (hts : ∀ w ∈ bigW, w.before args s = true) (hlk : Cond.methodLink own idx yX5_glue ∈ bigW) (hR : 7 ≤ R.frames ∧ 120 ≤ R.locals) (hf : cells + 1 ≤ R.cells ∧ slots + 6 ≤ R.slots) (hz : ls.size = nL) (hw : (rest.map fun v => v.category).sum ≤ 8) (hS : va_S A0 s.heap H locs) (hd : decode cc pc = .ok (.invokevirtual idx, 3)) (hA : ∀ q, fA 23 ad H.size q → A0 q) (hi : fI 23 ad) (hK : va_K (dC, dI) vwCl [(cI, .int), (cJ, .long)] s) (hP : va_P (dC, dI) vwCl (wC ad cI cJ Bc Bl Pk Pr Pl Pc Pm Gf Gt Gx Gd Gm Ek Er Ea Ex Em Eb Et Ss Sm Wg Wr Md) H) (hC : cxt A0 s s.heap) (a0 : Int64) (a1 : Int64) (a2 : Int32) (a3 : Int64) (a4 : Int32) (hs : S_X5_glue a0 a1 a2 a3 a4 Wg)  (u : Nat × (Nat → Int64)) (hu : u = f_X5_glue a0 a1 a2 a3 a4 Wg) (kx : ∀ {E : String} (hE : E = exN u.1) (ho : ¬ u.1 = 0) (H1 : Heap) (locs1 : List Loc), va_P (dC, dI) vwCl (wC ad cI cJ Bc Bl Pk Pr Pl Pc Pm Gf Gt Gx Gd Gm Ek Er Ea Ex Em Eb Et Ss Sm u.2 Wr Md) H1 → va_S A0 s.heap H1 locs1 → ∀ (ce : Cell) (q9 : Addr), H1[q9]? = some ce → ce.vm = .none → s.vm.findClass E = some ce.cls → vx_W p l e R s m args below meth c H1 locs1 (cells + 1) (slots + 6) Q (F0 m pc ls rest) q9) (k : u.1 = 0 → ∀ (H1 : Heap) (locs1 : List Loc), va_P (dC, dI) vwCl (wC ad cI cJ Bc Bl Pk Pr Pl Pc Pm Gf Gt Gx Gd Gm Ek Er Ea Ex Em Eb Et Ss Sm u.2 Wr Md) H1 → va_S A0 s.heap H1 locs1 → W p l e R s m args below meth c H1 locs1 (cells + 1) (slots + 6) Q (F0 m (pc + 3) ls (rest))) : W p l e R s m args below meth c H locs cells slots Q (F0 m pc ls (.int a4 :: .long a3 :: .int a2 :: .long a1 :: .long a0 :: .ref (ad 0) :: rest)) := by
  subst hu
  exact vx_callv (vx_runV (As := [.long a0, .long a1, .int a2, .long a3, .int a4]) (rest := rest) ⟨hx, hb, hml, hown, hts⟩ (c_X5_glue l hst dC dI cI cJ ad hi H.size Bc Bl Pk Pr Pl Pc Pm Gf Gt Gx Gd Gm Ek Er Ea Ex Em Eb Et Ss Sm Wg Wr Md a0 a1 a2 a3 a4 hs) (kV 5 hts hlk mI_X5_glue mN_RX5 mY_X5_glue mV_X5_glue rfl rfl (by decide +kernel) hR) ⟨fun a U g mk q => ⟨q.1, q.2.1, q.2.2.1, va_K.moved (u := U) (U := U.calling g mk a) (Vm.Alike.refl U.vm) q.2.2.2.1, q.2.2.2.2.call⟩, va_recv hK hP (ci := 7) (q0 := 0) rfl rfl, fun U hU hW => ⟨rfl, by rw [hU], by rw [hU]; exact hP, va_K.moved hW.alike hK, hC.here hS hU hW hA⟩⟩ rfl rfl hz rfl (lv_room hw) hd hf) hS (fun q _ h => hA q h) (fun q h => hA q h) (fun q _ h => hA q h) (fun E ce q9 u t H1 locs1 ht hvm hw9 hB hz1 hk1 hS1 h1 h2 h3 => kx hB.1 hw9 H1 locs1 (by rw [← ht]; exact hB.2) hS1 ce q9 h1 h2 h3) (fun u t H1 locs1 ht hvm hw9 hB hz1 hk1 hS1 => by
    have e1 := hw9
    exact k e1 H1 locs1 (by rw [← ht]; exact hB) hS1)
theorem qf_X5_glue {p : Program} {l : Launch} {e : Env} {R : Room} {s : State} {m : MethodId} {args : Array Value} {below : List Frame} {meth : Method} {c : Code} {H : Heap} {locs : List Loc} {cells slots : Nat} {Q : State → Prop} {pc : Nat} {ls : Array Slot} {rest : List Value} {cc : ByteArray} {nL idx : Nat} {own : String} {A0 : Nat → Prop} {dC : Nat → ClassId} {dI : Nat → Nat → Nat} {cI cJ : ClassId} {ad : Nat → Nat} {Bc : Nat → Int64} {Bl : Nat → Int32} {Pk : Nat → Int32} {Pr : Nat → Int32} {Pl : Nat → Int32} {Pc : Nat → Int64} {Pm : Int32} {Gf : Nat → Int32} {Gt : Nat → Int32} {Gx : Nat → Int32} {Gd : Int32} {Gm : Int32} {Ek : Nat → Int32} {Er : Nat → Int32} {Ea : Nat → Int32} {Ex : Nat → Int32} {Em : Int32} {Eb : Int32} {Et : Int32} {Ss : Nat → Int32} {Sm : Int32} {Wg : Nat → Int64} {Wr : Nat → Int64} {Md : Nat → Int64} (hst : l.stackTraces = false) (hx : p.tables.exec = Jvm.exec) (hb : c.code = cc) (hml : c.maxLocals = nL) (hown : s.vm.findClass own = some m.cls) (hts : ∀ w ∈ bigW, w.before args s = true) (hlk : Cond.methodLink own idx yX5_glue ∈ bigW) (hR : 7 ≤ R.frames ∧ 120 ≤ R.locals) (hf : cells + 1 ≤ R.cells ∧ slots + 6 ≤ R.slots) (hz : ls.size = nL) (hw : (rest.map fun v => v.category).sum ≤ 8) (hS : va_S A0 s.heap H locs) (hd : decode cc pc = .ok (.invokevirtual idx, 3)) (hA : ∀ q, fA 23 ad H.size q → A0 q) (hi : fI 23 ad) (hK : va_K (dC, dI) vwCl [(cI, .int), (cJ, .long)] s) (hP : va_P (dC, dI) vwCl (wC ad cI cJ Bc Bl Pk Pr Pl Pc Pm Gf Gt Gx Gd Gm Ek Er Ea Ex Em Eb Et Ss Sm Wg Wr Md) H) (hC : cxt A0 s s.heap) (a0 : Int64) (a1 : Int64) (a2 : Int32) (a3 : Int64) (a4 : Int32) (hs : S_X5_glue a0 a1 a2 a3 a4 Wg)  (u : Nat × (Nat → Int64)) (hu : u = f_X5_glue a0 a1 a2 a3 a4 Wg) (kx : ∀ {E : String} (hE : E = exN u.1) (ho : ¬ u.1 = 0) (H1 : Heap) (locs1 : List Loc), va_P (dC, dI) vwCl (wC ad cI cJ Bc Bl Pk Pr Pl Pc Pm Gf Gt Gx Gd Gm Ek Er Ea Ex Em Eb Et Ss Sm u.2 Wr Md) H1 → va_S A0 s.heap H1 locs1 → (∀ q : Nat, q < H.size → ¬ fA 23 ad H.size q → H1[q]? = H[q]?) → H.size ≤ H1.size → ∀ (ce : Cell) (q9 : Addr), H1[q9]? = some ce → ce.vm = .none → s.vm.findClass E = some ce.cls → vx_W p l e R s m args below meth c H1 locs1 (cells + 1) (slots + 6) Q (F0 m pc ls rest) q9) (k : u.1 = 0 → ∀ (H1 : Heap) (locs1 : List Loc), va_P (dC, dI) vwCl (wC ad cI cJ Bc Bl Pk Pr Pl Pc Pm Gf Gt Gx Gd Gm Ek Er Ea Ex Em Eb Et Ss Sm u.2 Wr Md) H1 → va_S A0 s.heap H1 locs1 → (∀ q : Nat, q < H.size → ¬ fA 23 ad H.size q → H1[q]? = H[q]?) → H.size ≤ H1.size → W p l e R s m args below meth c H1 locs1 (cells + 1) (slots + 6) Q (F0 m (pc + 3) ls (rest))) : W p l e R s m args below meth c H locs cells slots Q (F0 m pc ls (.int a4 :: .long a3 :: .int a2 :: .long a1 :: .long a0 :: .ref (ad 0) :: rest)) := by
  subst hu
  exact vx_callv (vx_runV (As := [.long a0, .long a1, .int a2, .long a3, .int a4]) (rest := rest) ⟨hx, hb, hml, hown, hts⟩ (c_X5_glue l hst dC dI cI cJ ad hi H.size Bc Bl Pk Pr Pl Pc Pm Gf Gt Gx Gd Gm Ek Er Ea Ex Em Eb Et Ss Sm Wg Wr Md a0 a1 a2 a3 a4 hs) (kV 5 hts hlk mI_X5_glue mN_RX5 mY_X5_glue mV_X5_glue rfl rfl (by decide +kernel) hR) ⟨fun a U g mk q => ⟨q.1, q.2.1, q.2.2.1, va_K.moved (u := U) (U := U.calling g mk a) (Vm.Alike.refl U.vm) q.2.2.2.1, q.2.2.2.2.call⟩, va_recv hK hP (ci := 7) (q0 := 0) rfl rfl, fun U hU hW => ⟨rfl, by rw [hU], by rw [hU]; exact hP, va_K.moved hW.alike hK, hC.here hS hU hW hA⟩⟩ rfl rfl hz rfl (lv_room hw) hd hf) hS (fun q _ h => hA q h) (fun q h => hA q h) (fun q _ h => hA q h) (fun E ce q9 u t H1 locs1 ht hvm hw9 hB hz1 hk1 hS1 h1 h2 h3 => kx hB.1 hw9 H1 locs1 (by rw [← ht]; exact hB.2) hS1 hk1 hz1 ce q9 h1 h2 h3) (fun u t H1 locs1 ht hvm hw9 hB hz1 hk1 hS1 => by
    have e1 := hw9
    exact k e1 H1 locs1 (by rw [← ht]; exact hB) hS1 hk1 hz1)

def f_X5_makeGiven (a0 : Int32) (a1 : Int64) (Wg : Nat → Int64) (Wr : Nat → Int64) (Md : Nat → Int64) : (Nat → Int64) := (if a0 = (2 : Int32) then (va_cpy Wg Md (0 : Int32).toNatClampNeg (0 : Int32).toNatClampNeg (5 : Int32).toNatClampNeg) else (if a0 = (3 : Int32) then (va_cpy Wr Md (0 : Int32).toNatClampNeg (0 : Int32).toNatClampNeg (21 : Int32).toNatClampNeg) else (vp_updL Md (0 : Int32).toNatClampNeg a1)))
def S_X5_makeGiven (a0 : Int32) (a1 : Int64) (Wg : Nat → Int64) (Wr : Nat → Int64) (Md : Nat → Int64) : Prop := (a0 = (2 : Int32) → ((¬ (0 : Int32) < 0) ∧ ((¬ (0 : Int32) < 0) ∧ ((¬ (5 : Int32) < 0) ∧ (((0 : Int32).toNatClampNeg + (5 : Int32).toNatClampNeg ≤ 5) ∧ (((0 : Int32).toNatClampNeg + (5 : Int32).toNatClampNeg ≤ 21) ∧ (True))))))) ∧ (¬ a0 = (2 : Int32) → ((a0 = (3 : Int32) → ((¬ (0 : Int32) < 0) ∧ ((¬ (0 : Int32) < 0) ∧ ((¬ (21 : Int32) < 0) ∧ (((0 : Int32).toNatClampNeg + (21 : Int32).toNatClampNeg ≤ 21) ∧ (((0 : Int32).toNatClampNeg + (21 : Int32).toNatClampNeg ≤ 21) ∧ (True))))))) ∧ (¬ a0 = (3 : Int32) → ((vp_in (0 : Int32) 21) ∧ (True)))))
set_option maxHeartbeats 4000000 in
set_option maxRecDepth 100000 in
theorem c_X5_makeGiven (l : Launch) (dC : Nat → ClassId) (dI : Nat → Nat → Nat) (cI cJ : ClassId) (ad : Nat → Nat) (hi : fI 23 ad) (sz : Nat) (Bc : Nat → Int64) (Bl : Nat → Int32) (Pk : Nat → Int32) (Pr : Nat → Int32) (Pl : Nat → Int32) (Pc : Nat → Int64) (Pm : Int32) (Gf : Nat → Int32) (Gt : Nat → Int32) (Gx : Nat → Int32) (Gd : Int32) (Gm : Int32) (Ek : Nat → Int32) (Er : Nat → Int32) (Ea : Nat → Int32) (Ex : Nat → Int32) (Em : Int32) (Eb : Int32) (Et : Int32) (Ss : Nat → Int32) (Sm : Int32) (Wg : Nat → Int64) (Wr : Nat → Int64) (Md : Nat → Int64) (a0 : Int32) (a1 : Int64) (hs : S_X5_makeGiven a0 a1 Wg Wr Md) : Met l yX5_makeGiven (mW yX5_makeGiven cX5_makeGiven 4 none) { frames := 1, cells := 0, slots := 0, locals := 60 } (va_Pc [.ref (ad 0), .int a0, .long a1] (fun U => U.heap.size = sz ∧ va_P (dC, dI) vwCl (wC ad cI cJ Bc Bl Pk Pr Pl Pc Pm Gf Gt Gx Gd Gm Ek Er Ea Ex Em Eb Et Ss Sm Wg Wr Md) U.heap ∧ va_K (dC, dI) vwCl [(cI, .int), (cJ, .long)] U)) (va_Qv (fun (_ : Unit) => True) (fun _ t => va_P (dC, dI) vwCl (wC ad cI cJ Bc Bl Pk Pr Pl Pc Pm Gf Gt Gx Gd Gm Ek Er Ea Ex Em Eb Et Ss Sm Wg Wr (f_X5_makeGiven a0 a1 Wg Wr Md)) t.heap) (fA 23 ad sz)) 0 0 (fA 23 ad sz) := by
  refine Met.ofW (cc := cX5_makeGiven) (maxL := 4) (ret := none) (by decide) rfl ?_
  intro p e s m args below meth c s₁ B hml hv
  obtain ⟨rfl, hsz, hP, hK⟩ := hv
  have hx := B.exec
  have hb := B.bytes
  have hr := B.returns
  have hts := mW_hts (atoms_spec (ws := (mW yX5_makeGiven cX5_makeGiven 4 none)) B.pre)
  have hown : s.vm.findClass RX5 = some m.cls := findClass_of_methodNamed B.named
  have hlocks := B.notSynchronized
  subst hsz
  have hA : ∀ (n : Nat) (q : Nat), s.heap.size ≤ n → n ≤ q → fA 23 ad s.heap.size q := fun n q h1 h2 => Or.inr (Nat.le_trans h1 h2)
  have hS : va_S (fA 23 ad s.heap.size) s.heap s.heap [] := va_S.rf
  have hA : ∀ q, s.heap.size ≤ q → (fA 23 ad s.heap.size) q := fun q h => Or.inr h
  unfold S_X5_makeGiven at hs
  have hl := lv_entry ([.ref (ad 0), .int a0, .long a1]) (n := 4) (Nat.le_of_ble_eq_true rfl)
  rw [lg_entry_eq]
  generalize (lg_sl ([.ref (ad 0), .int a0, .long a1]) ++ List.replicate (4 - (lg_sl ([.ref (ad 0), .int a0, .long a1])).length) Slot.unset).toArray = ls at hl ⊢
  have hl : lv_has ls 4 [(0, .ref (ad 0)), (1, .int a0), (2, .long a1)] := hl
  refine W_gen (fun Q9 hQ9 => ?_)
  refine lv_iload_n hx hb dX5_makeGiven_0 rfl (lv_at hl 1 rfl) ?_
  refine lv_iconst (v := 2) hx hb dX5_makeGiven_1 (by decide) ?_
  refine lv_icmp_ne (tgt := 22) hx hb dX5_makeGiven_2 (by decide) (fun c1 => ?_) (fun c1 => ?_)
  · have hs := hs.2 c1
    refine lv_iload_n hx hb dX5_makeGiven_22 rfl (lv_at hl 1 rfl) ?_
    refine lv_iconst (v := 3) hx hb dX5_makeGiven_23 (by decide) ?_
    refine lv_icmp_ne (tgt := 45) hx hb dX5_makeGiven_24 (by decide) (fun c2 => ?_) (fun c2 => ?_)
    · have hs := hs.2 c2
      refine lv_aload_n hx hb dX5_makeGiven_45 rfl (lv_at hl 0 rfl) ?_
      refine va_get (D := (dC, dI)) (ci := 7) (v := .ref (ad 22)) (C := RX5) (T := TX5) (N := 8) hx hb hts iW_X5 hown hK hP 0 rfl rfl 7 (by decide) (hts _ mF_RX5_51) (fun _ h9 => h9) rfl dX5_makeGiven_46 ?_
      refine lv_iconst (v := 0) hx hb dX5_makeGiven_49 (by decide) ?_
      refine lv_lload_n hx hb dX5_makeGiven_50 rfl (lv_at hl 2 rfl) ?_
      obtain ⟨h3, hs⟩ := hs
      refine va_last hx hb hK hP (fA_D hi rfl) hS 22 1 rfl rfl h3 dX5_makeGiven_51 (fun H locs hP _ hS => ?_)
      have hP : va_P (dC, dI) vwCl (wC ad cI cJ Bc Bl Pk Pr Pl Pc Pm Gf Gt Gx Gd Gm Ek Er Ea Ex Em Eb Et Ss Sm Wg Wr (vp_updL Md (0 : Int32).toNatClampNeg a1)) H := hP
      rw [hQ9]
      have hf : f_X5_makeGiven a0 a1 Wg Wr Md = (vp_updL Md (0 : Int32).toNatClampNeg a1) := by simp only [f_X5_makeGiven, if_neg c1, if_neg c2]
      exact W.vret hx hb hr (fun t ht hW => ⟨⟨(), rfl, True.intro, by rw [hf]; show va_P (dC, dI) vwCl _ t.heap; rw [ht]; exact hP⟩, hS.F ht⟩) hS.2.2 dX5_makeGiven_52
    · have hs := hs.1 c2
      refine lv_aload_n hx hb dX5_makeGiven_27 rfl (lv_at hl 0 rfl) ?_
      refine va_get (D := (dC, dI)) (ci := 7) (v := .ref (ad 21)) (C := RX5) (T := TX5) (N := 8) hx hb hts iW_X5 hown hK hP 0 rfl rfl 6 (by decide) (hts _ mF_RX5_48) (fun _ h9 => h9) rfl dX5_makeGiven_28 ?_
      refine lv_iconst (v := 0) hx hb dX5_makeGiven_31 (by decide) ?_
      refine lv_aload_n hx hb dX5_makeGiven_32 rfl (lv_at hl 0 rfl) ?_
      refine va_get (D := (dC, dI)) (ci := 7) (v := .ref (ad 22)) (C := RX5) (T := TX5) (N := 8) hx hb hts iW_X5 hown hK hP 0 rfl rfl 7 (by decide) (hts _ mF_RX5_51) (fun _ h9 => h9) rfl dX5_makeGiven_33 ?_
      refine lv_iconst (v := 0) hx hb dX5_makeGiven_36 (by decide) ?_
      refine lv_bipush (v := 21) hx hb dX5_makeGiven_37 (by decide) ?_
      obtain ⟨h4, hs⟩ := hs
      obtain ⟨h5, hs⟩ := hs
      obtain ⟨h6, hs⟩ := hs
      obtain ⟨h7, hs⟩ := hs
      obtain ⟨h8, hs⟩ := hs
      refine va_copyl hx hb (by rw [hml]; exact hl.1.symm) hown (hts _ mM_RX5_268) (hts _ mcp1) (hts _ mcp2) (hts _ mcp3) hK hP (fA_D hi rfl) hS 21 22 1 1 rfl rfl rfl rfl rfl h4 h5 h6 h7 h8 (fun _ _ => rfl) (Nat.le_of_ble_eq_true rfl) (Nat.le_of_ble_eq_true rfl) dX5_makeGiven_39 (fun H locs hP _ hS => ?_)
      have hP : va_P (dC, dI) vwCl (wC ad cI cJ Bc Bl Pk Pr Pl Pc Pm Gf Gt Gx Gd Gm Ek Er Ea Ex Em Eb Et Ss Sm Wg Wr (va_cpy Wr Md (0 : Int32).toNatClampNeg (0 : Int32).toNatClampNeg (21 : Int32).toNatClampNeg)) H := hP
      refine lv_goto (tgt := 52) hx hb dX5_makeGiven_42 (by decide) ?_
      rw [hQ9]
      have hf : f_X5_makeGiven a0 a1 Wg Wr Md = (va_cpy Wr Md (0 : Int32).toNatClampNeg (0 : Int32).toNatClampNeg (21 : Int32).toNatClampNeg) := by simp only [f_X5_makeGiven, if_neg c1, if_pos c2]
      exact W.vret hx hb hr (fun t ht hW => ⟨⟨(), rfl, True.intro, by rw [hf]; show va_P (dC, dI) vwCl _ t.heap; rw [ht]; exact hP⟩, hS.F ht⟩) hS.2.2 dX5_makeGiven_52
  · have hs := hs.1 c1
    refine lv_aload_n hx hb dX5_makeGiven_5 rfl (lv_at hl 0 rfl) ?_
    refine va_get (D := (dC, dI)) (ci := 7) (v := .ref (ad 20)) (C := RX5) (T := TX5) (N := 8) hx hb hts iW_X5 hown hK hP 0 rfl rfl 5 (by decide) (hts _ mF_RX5_44) (fun _ h9 => h9) rfl dX5_makeGiven_6 ?_
    refine lv_iconst (v := 0) hx hb dX5_makeGiven_9 (by decide) ?_
    refine lv_aload_n hx hb dX5_makeGiven_10 rfl (lv_at hl 0 rfl) ?_
    refine va_get (D := (dC, dI)) (ci := 7) (v := .ref (ad 22)) (C := RX5) (T := TX5) (N := 8) hx hb hts iW_X5 hown hK hP 0 rfl rfl 7 (by decide) (hts _ mF_RX5_51) (fun _ h9 => h9) rfl dX5_makeGiven_11 ?_
    refine lv_iconst (v := 0) hx hb dX5_makeGiven_14 (by decide) ?_
    refine lv_iconst (v := 5) hx hb dX5_makeGiven_15 (by decide) ?_
    obtain ⟨h9, hs⟩ := hs
    obtain ⟨h10, hs⟩ := hs
    obtain ⟨h11, hs⟩ := hs
    obtain ⟨h12, hs⟩ := hs
    obtain ⟨h13, hs⟩ := hs
    refine va_copyl hx hb (by rw [hml]; exact hl.1.symm) hown (hts _ mM_RX5_268) (hts _ mcp1) (hts _ mcp2) (hts _ mcp3) hK hP (fA_D hi rfl) hS 20 22 1 1 rfl rfl rfl rfl rfl h9 h10 h11 h12 h13 (fun _ _ => rfl) (Nat.le_of_ble_eq_true rfl) (Nat.le_of_ble_eq_true rfl) dX5_makeGiven_16 (fun H locs hP _ hS => ?_)
    have hP : va_P (dC, dI) vwCl (wC ad cI cJ Bc Bl Pk Pr Pl Pc Pm Gf Gt Gx Gd Gm Ek Er Ea Ex Em Eb Et Ss Sm Wg Wr (va_cpy Wg Md (0 : Int32).toNatClampNeg (0 : Int32).toNatClampNeg (5 : Int32).toNatClampNeg)) H := hP
    refine lv_goto (tgt := 52) hx hb dX5_makeGiven_19 (by decide) ?_
    rw [hQ9]
    have hf : f_X5_makeGiven a0 a1 Wg Wr Md = (va_cpy Wg Md (0 : Int32).toNatClampNeg (0 : Int32).toNatClampNeg (5 : Int32).toNatClampNeg) := by simp only [f_X5_makeGiven, if_pos c1]
    exact W.vret hx hb hr (fun t ht hW => ⟨⟨(), rfl, True.intro, by rw [hf]; show va_P (dC, dI) vwCl _ t.heap; rw [ht]; exact hP⟩, hS.F ht⟩) hS.2.2 dX5_makeGiven_52
theorem q_X5_makeGiven {p : Program} {l : Launch} {e : Env} {R : Room} {s : State} {m : MethodId} {args : Array Value} {below : List Frame} {meth : Method} {c : Code} {H : Heap} {locs : List Loc} {cells slots : Nat} {Q : State → Prop} {pc : Nat} {ls : Array Slot} {rest : List Value} {cc : ByteArray} {nL idx : Nat} {own : String} {A0 : Nat → Prop} {dC : Nat → ClassId} {dI : Nat → Nat → Nat} {cI cJ : ClassId} {ad : Nat → Nat} {Bc : Nat → Int64} {Bl : Nat → Int32} {Pk : Nat → Int32} {Pr : Nat → Int32} {Pl : Nat → Int32} {Pc : Nat → Int64} {Pm : Int32} {Gf : Nat → Int32} {Gt : Nat → Int32} {Gx : Nat → Int32} {Gd : Int32} {Gm : Int32} {Ek : Nat → Int32} {Er : Nat → Int32} {Ea : Nat → Int32} {Ex : Nat → Int32} {Em : Int32} {Eb : Int32} {Et : Int32} {Ss : Nat → Int32} {Sm : Int32} {Wg : Nat → Int64} {Wr : Nat → Int64} {Md : Nat → Int64} (hx : p.tables.exec = Jvm.exec) (hb : c.code = cc) (hml : c.maxLocals = nL) (hown : s.vm.findClass own = some m.cls) (hts : ∀ w ∈ bigW, w.before args s = true) (hlk : Cond.methodLink own idx yX5_makeGiven ∈ bigW) (hR : 2 ≤ R.frames ∧ 83 ≤ R.locals) (hf : cells + 0 ≤ R.cells ∧ slots + 0 ≤ R.slots) (hz : ls.size = nL) (hw : (rest.map fun v => v.category).sum ≤ 8) (hS : va_S A0 s.heap H locs) (hd : decode cc pc = .ok (.invokevirtual idx, 3)) (hA : ∀ q, fA 23 ad H.size q → A0 q) (hi : fI 23 ad) (hK : va_K (dC, dI) vwCl [(cI, .int), (cJ, .long)] s) (hP : va_P (dC, dI) vwCl (wC ad cI cJ Bc Bl Pk Pr Pl Pc Pm Gf Gt Gx Gd Gm Ek Er Ea Ex Em Eb Et Ss Sm Wg Wr Md) H) (a0 : Int32) (a1 : Int64) (hs : S_X5_makeGiven a0 a1 Wg Wr Md)  (u : (Nat → Int64)) (hu : u = f_X5_makeGiven a0 a1 Wg Wr Md) (k : ∀ (H1 : Heap) (locs1 : List Loc), va_P (dC, dI) vwCl (wC ad cI cJ Bc Bl Pk Pr Pl Pc Pm Gf Gt Gx Gd Gm Ek Er Ea Ex Em Eb Et Ss Sm Wg Wr u) H1 → va_S A0 s.heap H1 locs1 → W p l e R s m args below meth c H1 locs1 (cells + 0) (slots + 0) Q (F0 m (pc + 3) ls (rest))) : W p l e R s m args below meth c H locs cells slots Q (F0 m pc ls (.long a1 :: .int a0 :: .ref (ad 0) :: rest)) := by
  subst hu
  exact va_callv (va_runV (As := [.int a0, .long a1]) (rest := rest) ⟨hx, hb, hml, hown, hts⟩ (c_X5_makeGiven l dC dI cI cJ ad hi H.size Bc Bl Pk Pr Pl Pc Pm Gf Gt Gx Gd Gm Ek Er Ea Ex Em Eb Et Ss Sm Wg Wr Md a0 a1 hs) (kV 2 hts hlk mI_X5_makeGiven mN_RX5 mY_X5_makeGiven mV_X5_makeGiven rfl rfl (by decide +kernel) hR) ⟨fun a U g mk q => ⟨q.1, q.2.1, q.2.2.1, va_K.moved (u := U) (U := U.calling g mk a) (Vm.Alike.refl U.vm) q.2.2.2⟩, va_recv hK hP (ci := 7) (q0 := 0) rfl rfl, fun U hU hW => ⟨rfl, by rw [hU], by rw [hU]; exact hP, va_K.moved hW.alike hK⟩⟩ rfl rfl hz rfl (lv_room hw) hd hf) hS (fun q _ h => hA q h) (fun q h => hA q h) (fun u t H1 locs1 ht hvm hw9 hB hz1 hk1 hS1 => by
    skip
    exact k H1 locs1 (by rw [← ht]; exact hB) hS1)

def f_X5_madeFits (a0 : Int32) (Md : Nat → Int64) : Int32 := (if a0 = 0 then (f_X5_isCount (Md (0 : Int32).toNatClampNeg)) else (if a0 = (1 : Int32) then (f_X5_isLength (Md (0 : Int32).toNatClampNeg)) else (if a0 = (2 : Int32) then (if (f_X5_isLength (Md (0 : Int32).toNatClampNeg)) = 0 then (0 : Int32) else (if (f_X5_isLength (Md (1 : Int32).toNatClampNeg)) = 0 then (0 : Int32) else (if (f_X5_isLength (Md (3 : Int32).toNatClampNeg)) = 0 then (0 : Int32) else (1 : Int32)))) else (1 : Int32))))
def S_X5_madeFits (a0 : Int32) (Md : Nat → Int64) : Prop := (a0 = 0 → ((vp_in (0 : Int32) 21) ∧ (True))) ∧ (¬ a0 = 0 → ((a0 = (1 : Int32) → ((vp_in (0 : Int32) 21) ∧ (True))) ∧ (¬ a0 = (1 : Int32) → ((a0 = (2 : Int32) → ((vp_in (0 : Int32) 21) ∧ (((f_X5_isLength (Md (0 : Int32).toNatClampNeg)) = 0 → (True)) ∧ (¬ (f_X5_isLength (Md (0 : Int32).toNatClampNeg)) = 0 → ((vp_in (1 : Int32) 21) ∧ (((f_X5_isLength (Md (1 : Int32).toNatClampNeg)) = 0 → (True)) ∧ (¬ (f_X5_isLength (Md (1 : Int32).toNatClampNeg)) = 0 → ((vp_in (3 : Int32) 21) ∧ (((f_X5_isLength (Md (3 : Int32).toNatClampNeg)) = 0 → (True)) ∧ (¬ (f_X5_isLength (Md (3 : Int32).toNatClampNeg)) = 0 → (True))))))))))) ∧ (¬ a0 = (2 : Int32) → (True))))))
set_option maxHeartbeats 4000000 in
set_option maxRecDepth 100000 in
theorem c_X5_madeFits (l : Launch) (dC : Nat → ClassId) (dI : Nat → Nat → Nat) (cI cJ : ClassId) (ad : Nat → Nat) (hi : fI 23 ad) (sz : Nat) (Bc : Nat → Int64) (Bl : Nat → Int32) (Pk : Nat → Int32) (Pr : Nat → Int32) (Pl : Nat → Int32) (Pc : Nat → Int64) (Pm : Int32) (Gf : Nat → Int32) (Gt : Nat → Int32) (Gx : Nat → Int32) (Gd : Int32) (Gm : Int32) (Ek : Nat → Int32) (Er : Nat → Int32) (Ea : Nat → Int32) (Ex : Nat → Int32) (Em : Int32) (Eb : Int32) (Et : Int32) (Ss : Nat → Int32) (Sm : Int32) (Wg : Nat → Int64) (Wr : Nat → Int64) (Md : Nat → Int64) (a0 : Int32) (hs : S_X5_madeFits a0 Md) : Met l yX5_madeFits (mW yX5_madeFits cX5_madeFits 2 (some .boolean)) { frames := 2, cells := 0, slots := 0, locals := 46 } (va_Pc [.ref (ad 0), .int a0] (fun U => U.heap.size = sz ∧ va_P (dC, dI) vwCl (wC ad cI cJ Bc Bl Pk Pr Pl Pc Pm Gf Gt Gx Gd Gm Ek Er Ea Ex Em Eb Et Ss Sm Wg Wr Md) U.heap ∧ va_K (dC, dI) vwCl [(cI, .int), (cJ, .long)] U)) (va_Qi (fun (r : Int32) (_ : Unit) => r = f_X5_madeFits a0 Md) (fun _ t => va_P (dC, dI) vwCl (wC ad cI cJ Bc Bl Pk Pr Pl Pc Pm Gf Gt Gx Gd Gm Ek Er Ea Ex Em Eb Et Ss Sm Wg Wr Md) t.heap) (fA 23 ad sz)) 0 0 (fA 23 ad sz) := by
  refine Met.ofW (cc := cX5_madeFits) (maxL := 2) (ret := (some .boolean)) (by decide) rfl ?_
  intro p e s m args below meth c s₁ B hml hv
  obtain ⟨rfl, hsz, hP, hK⟩ := hv
  have hx := B.exec
  have hb := B.bytes
  have hr := B.returns
  have hts := mW_hts (atoms_spec (ws := (mW yX5_madeFits cX5_madeFits 2 (some .boolean))) B.pre)
  have hown : s.vm.findClass RX5 = some m.cls := findClass_of_methodNamed B.named
  have hlocks := B.notSynchronized
  subst hsz
  have hA : ∀ (n : Nat) (q : Nat), s.heap.size ≤ n → n ≤ q → fA 23 ad s.heap.size q := fun n q h1 h2 => Or.inr (Nat.le_trans h1 h2)
  have hS : va_S (fA 23 ad s.heap.size) s.heap s.heap [] := va_S.rf
  have hA : ∀ q, s.heap.size ≤ q → (fA 23 ad s.heap.size) q := fun q h => Or.inr h
  unfold S_X5_madeFits at hs
  have hl := lv_entry ([.ref (ad 0), .int a0]) (n := 2) (Nat.le_of_ble_eq_true rfl)
  rw [lg_entry_eq]
  generalize (lg_sl ([.ref (ad 0), .int a0]) ++ List.replicate (2 - (lg_sl ([.ref (ad 0), .int a0])).length) Slot.unset).toArray = ls at hl ⊢
  have hl : lv_has ls 2 [(0, .ref (ad 0)), (1, .int a0)] := hl
  refine W_gen (fun Q9 hQ9 => ?_)
  refine lv_iload_n hx hb dX5_madeFits_0 rfl (lv_at hl 1 rfl) ?_
  refine lv_if_ne (tgt := 14) hx hb dX5_madeFits_1 (by decide) (fun c1 => ?_) (fun c1 => ?_)
  · have hs := hs.2 c1
    refine lv_iload_n hx hb dX5_madeFits_14 rfl (lv_at hl 1 rfl) ?_
    refine lv_iconst (v := 1) hx hb dX5_madeFits_15 (by decide) ?_
    refine lv_icmp_ne (tgt := 29) hx hb dX5_madeFits_16 (by decide) (fun c2 => ?_) (fun c2 => ?_)
    · have hs := hs.2 c2
      refine lv_iload_n hx hb dX5_madeFits_29 rfl (lv_at hl 1 rfl) ?_
      refine lv_iconst (v := 2) hx hb dX5_madeFits_30 (by decide) ?_
      refine lv_icmp_ne (tgt := 70) hx hb dX5_madeFits_31 (by decide) (fun c3 => ?_) (fun c3 => ?_)
      · have hs := hs.2 c3
        refine lv_iconst (v := 1) hx hb dX5_madeFits_70 (by decide) ?_
        refine lv_goto (tgt := 75) hx hb dX5_madeFits_71 (by decide) ?_
        rw [hQ9]
        have hf : f_X5_madeFits a0 Md = (1 : Int32) := by simp only [f_X5_madeFits, if_neg c1, if_neg c2, if_neg c3]
        exact W.zret (v := (1 : Int32)) (ty := .boolean) hx hb hr (rfl) (fun t ht hW => ⟨⟨(1 : Int32), (), rfl, by rw [hf], by show va_P (dC, dI) vwCl _ t.heap; rw [ht]; exact hP⟩, hS.F ht⟩) hS.2.2 dX5_madeFits_75
      · have hs := hs.1 c3
        refine lv_aload_n hx hb dX5_madeFits_34 rfl (lv_at hl 0 rfl) ?_
        refine va_get (D := (dC, dI)) (ci := 7) (v := .ref (ad 22)) (C := RX5) (T := TX5) (N := 8) hx hb hts iW_X5 hown hK hP 0 rfl rfl 7 (by decide) (hts _ mF_RX5_51) (fun _ h9 => h9) rfl dX5_madeFits_35 ?_
        refine lv_iconst (v := 0) hx hb dX5_madeFits_38 (by decide) ?_
        obtain ⟨h4, hs⟩ := hs
        refine va_lald hx hb hK hP 22 1 rfl rfl h4 dX5_madeFits_39 ?_
        refine q_X5_isLength hx hb hml hown hts mM_RX5_58 ⟨Nat.le_of_ble_eq_true rfl, Nat.le_of_ble_eq_true rfl⟩ ⟨Nat.le_of_ble_eq_true rfl, Nat.le_of_ble_eq_true rfl⟩ hl.1 (Nat.le_of_ble_eq_true rfl) hS dX5_madeFits_40 hA (Md (0 : Int32).toNatClampNeg) (fun locs hS => ?_)
        refine lv_if_eq (tgt := 74) hx hb dX5_madeFits_43 (by decide) (fun c5 => ?_) (fun c5 => ?_)
        · have hs := hs.1 c5
          refine lv_iconst (v := 0) hx hb dX5_madeFits_74 (by decide) ?_
          rw [hQ9]
          have hf : f_X5_madeFits a0 Md = (0 : Int32) := by simp only [f_X5_madeFits, if_neg c1, if_neg c2, if_pos c3, if_pos c5]
          exact W.zret (v := (0 : Int32)) (ty := .boolean) hx hb hr (rfl) (fun t ht hW => ⟨⟨(0 : Int32), (), rfl, by rw [hf], by show va_P (dC, dI) vwCl _ t.heap; rw [ht]; exact hP⟩, hS.F ht⟩) hS.2.2 dX5_madeFits_75
        · have hs := hs.2 c5
          refine lv_aload_n hx hb dX5_madeFits_46 rfl (lv_at hl 0 rfl) ?_
          refine va_get (D := (dC, dI)) (ci := 7) (v := .ref (ad 22)) (C := RX5) (T := TX5) (N := 8) hx hb hts iW_X5 hown hK hP 0 rfl rfl 7 (by decide) (hts _ mF_RX5_51) (fun _ h9 => h9) rfl dX5_madeFits_47 ?_
          refine lv_iconst (v := 1) hx hb dX5_madeFits_50 (by decide) ?_
          obtain ⟨h6, hs⟩ := hs
          refine va_lald hx hb hK hP 22 1 rfl rfl h6 dX5_madeFits_51 ?_
          refine q_X5_isLength hx hb hml hown hts mM_RX5_58 ⟨Nat.le_of_ble_eq_true rfl, Nat.le_of_ble_eq_true rfl⟩ ⟨Nat.le_of_ble_eq_true rfl, Nat.le_of_ble_eq_true rfl⟩ hl.1 (Nat.le_of_ble_eq_true rfl) hS dX5_madeFits_52 hA (Md (1 : Int32).toNatClampNeg) (fun locs hS => ?_)
          refine lv_if_eq (tgt := 74) hx hb dX5_madeFits_55 (by decide) (fun c7 => ?_) (fun c7 => ?_)
          · have hs := hs.1 c7
            refine lv_iconst (v := 0) hx hb dX5_madeFits_74 (by decide) ?_
            rw [hQ9]
            have hf : f_X5_madeFits a0 Md = (0 : Int32) := by simp only [f_X5_madeFits, if_neg c1, if_neg c2, if_pos c3, if_neg c5, if_pos c7]
            exact W.zret (v := (0 : Int32)) (ty := .boolean) hx hb hr (rfl) (fun t ht hW => ⟨⟨(0 : Int32), (), rfl, by rw [hf], by show va_P (dC, dI) vwCl _ t.heap; rw [ht]; exact hP⟩, hS.F ht⟩) hS.2.2 dX5_madeFits_75
          · have hs := hs.2 c7
            refine lv_aload_n hx hb dX5_madeFits_58 rfl (lv_at hl 0 rfl) ?_
            refine va_get (D := (dC, dI)) (ci := 7) (v := .ref (ad 22)) (C := RX5) (T := TX5) (N := 8) hx hb hts iW_X5 hown hK hP 0 rfl rfl 7 (by decide) (hts _ mF_RX5_51) (fun _ h9 => h9) rfl dX5_madeFits_59 ?_
            refine lv_iconst (v := 3) hx hb dX5_madeFits_62 (by decide) ?_
            obtain ⟨h8, hs⟩ := hs
            refine va_lald hx hb hK hP 22 1 rfl rfl h8 dX5_madeFits_63 ?_
            refine q_X5_isLength hx hb hml hown hts mM_RX5_58 ⟨Nat.le_of_ble_eq_true rfl, Nat.le_of_ble_eq_true rfl⟩ ⟨Nat.le_of_ble_eq_true rfl, Nat.le_of_ble_eq_true rfl⟩ hl.1 (Nat.le_of_ble_eq_true rfl) hS dX5_madeFits_64 hA (Md (3 : Int32).toNatClampNeg) (fun locs hS => ?_)
            refine lv_if_eq (tgt := 74) hx hb dX5_madeFits_67 (by decide) (fun c9 => ?_) (fun c9 => ?_)
            · have hs := hs.1 c9
              refine lv_iconst (v := 0) hx hb dX5_madeFits_74 (by decide) ?_
              rw [hQ9]
              have hf : f_X5_madeFits a0 Md = (0 : Int32) := by simp only [f_X5_madeFits, if_neg c1, if_neg c2, if_pos c3, if_neg c5, if_neg c7, if_pos c9]
              exact W.zret (v := (0 : Int32)) (ty := .boolean) hx hb hr (rfl) (fun t ht hW => ⟨⟨(0 : Int32), (), rfl, by rw [hf], by show va_P (dC, dI) vwCl _ t.heap; rw [ht]; exact hP⟩, hS.F ht⟩) hS.2.2 dX5_madeFits_75
            · have hs := hs.2 c9
              refine lv_iconst (v := 1) hx hb dX5_madeFits_70 (by decide) ?_
              refine lv_goto (tgt := 75) hx hb dX5_madeFits_71 (by decide) ?_
              rw [hQ9]
              have hf : f_X5_madeFits a0 Md = (1 : Int32) := by simp only [f_X5_madeFits, if_neg c1, if_neg c2, if_pos c3, if_neg c5, if_neg c7, if_neg c9]
              exact W.zret (v := (1 : Int32)) (ty := .boolean) hx hb hr (rfl) (fun t ht hW => ⟨⟨(1 : Int32), (), rfl, by rw [hf], by show va_P (dC, dI) vwCl _ t.heap; rw [ht]; exact hP⟩, hS.F ht⟩) hS.2.2 dX5_madeFits_75
    · have hs := hs.1 c2
      refine lv_aload_n hx hb dX5_madeFits_19 rfl (lv_at hl 0 rfl) ?_
      refine va_get (D := (dC, dI)) (ci := 7) (v := .ref (ad 22)) (C := RX5) (T := TX5) (N := 8) hx hb hts iW_X5 hown hK hP 0 rfl rfl 7 (by decide) (hts _ mF_RX5_51) (fun _ h9 => h9) rfl dX5_madeFits_20 ?_
      refine lv_iconst (v := 0) hx hb dX5_madeFits_23 (by decide) ?_
      obtain ⟨h10, hs⟩ := hs
      refine va_lald hx hb hK hP 22 1 rfl rfl h10 dX5_madeFits_24 ?_
      refine q_X5_isLength hx hb hml hown hts mM_RX5_58 ⟨Nat.le_of_ble_eq_true rfl, Nat.le_of_ble_eq_true rfl⟩ ⟨Nat.le_of_ble_eq_true rfl, Nat.le_of_ble_eq_true rfl⟩ hl.1 (Nat.le_of_ble_eq_true rfl) hS dX5_madeFits_25 hA (Md (0 : Int32).toNatClampNeg) (fun locs hS => ?_)
      rw [hQ9]
      have hf : f_X5_madeFits a0 Md = (f_X5_isLength (Md (0 : Int32).toNatClampNeg)) := by simp only [f_X5_madeFits, if_neg c1, if_pos c2]
      exact W.zret (v := (f_X5_isLength (Md (0 : Int32).toNatClampNeg))) (ty := .boolean) hx hb hr (nb_within _ _ _) (fun t ht hW => ⟨⟨(f_X5_isLength (Md (0 : Int32).toNatClampNeg)), (), rfl, by rw [hf], by show va_P (dC, dI) vwCl _ t.heap; rw [ht]; exact hP⟩, hS.F ht⟩) hS.2.2 dX5_madeFits_28
  · have hs := hs.1 c1
    refine lv_aload_n hx hb dX5_madeFits_4 rfl (lv_at hl 0 rfl) ?_
    refine va_get (D := (dC, dI)) (ci := 7) (v := .ref (ad 22)) (C := RX5) (T := TX5) (N := 8) hx hb hts iW_X5 hown hK hP 0 rfl rfl 7 (by decide) (hts _ mF_RX5_51) (fun _ h9 => h9) rfl dX5_madeFits_5 ?_
    refine lv_iconst (v := 0) hx hb dX5_madeFits_8 (by decide) ?_
    obtain ⟨h11, hs⟩ := hs
    refine va_lald hx hb hK hP 22 1 rfl rfl h11 dX5_madeFits_9 ?_
    refine q_X5_isCount hx hb hml hown hts mM_RX5_126 ⟨Nat.le_of_ble_eq_true rfl, Nat.le_of_ble_eq_true rfl⟩ ⟨Nat.le_of_ble_eq_true rfl, Nat.le_of_ble_eq_true rfl⟩ hl.1 (Nat.le_of_ble_eq_true rfl) hS dX5_madeFits_10 hA (Md (0 : Int32).toNatClampNeg) (fun locs hS => ?_)
    rw [hQ9]
    have hf : f_X5_madeFits a0 Md = (f_X5_isCount (Md (0 : Int32).toNatClampNeg)) := by simp only [f_X5_madeFits, if_pos c1]
    exact W.zret (v := (f_X5_isCount (Md (0 : Int32).toNatClampNeg))) (ty := .boolean) hx hb hr (nb_within _ _ _) (fun t ht hW => ⟨⟨(f_X5_isCount (Md (0 : Int32).toNatClampNeg)), (), rfl, by rw [hf], by show va_P (dC, dI) vwCl _ t.heap; rw [ht]; exact hP⟩, hS.F ht⟩) hS.2.2 dX5_madeFits_13
theorem q_X5_madeFits {p : Program} {l : Launch} {e : Env} {R : Room} {s : State} {m : MethodId} {args : Array Value} {below : List Frame} {meth : Method} {c : Code} {H : Heap} {locs : List Loc} {cells slots : Nat} {Q : State → Prop} {pc : Nat} {ls : Array Slot} {rest : List Value} {cc : ByteArray} {nL idx : Nat} {own : String} {A0 : Nat → Prop} {dC : Nat → ClassId} {dI : Nat → Nat → Nat} {cI cJ : ClassId} {ad : Nat → Nat} {Bc : Nat → Int64} {Bl : Nat → Int32} {Pk : Nat → Int32} {Pr : Nat → Int32} {Pl : Nat → Int32} {Pc : Nat → Int64} {Pm : Int32} {Gf : Nat → Int32} {Gt : Nat → Int32} {Gx : Nat → Int32} {Gd : Int32} {Gm : Int32} {Ek : Nat → Int32} {Er : Nat → Int32} {Ea : Nat → Int32} {Ex : Nat → Int32} {Em : Int32} {Eb : Int32} {Et : Int32} {Ss : Nat → Int32} {Sm : Int32} {Wg : Nat → Int64} {Wr : Nat → Int64} {Md : Nat → Int64} (hx : p.tables.exec = Jvm.exec) (hb : c.code = cc) (hml : c.maxLocals = nL) (hown : s.vm.findClass own = some m.cls) (hts : ∀ w ∈ bigW, w.before args s = true) (hlk : Cond.methodLink own idx yX5_madeFits ∈ bigW) (hR : 3 ≤ R.frames ∧ 67 ≤ R.locals) (hf : cells + 0 ≤ R.cells ∧ slots + 0 ≤ R.slots) (hz : ls.size = nL) (hw : (rest.map fun v => v.category).sum ≤ 8) (hS : va_S A0 s.heap H locs) (hd : decode cc pc = .ok (.invokevirtual idx, 3)) (hA : ∀ q, fA 23 ad H.size q → A0 q) (hi : fI 23 ad) (hK : va_K (dC, dI) vwCl [(cI, .int), (cJ, .long)] s) (hP : va_P (dC, dI) vwCl (wC ad cI cJ Bc Bl Pk Pr Pl Pc Pm Gf Gt Gx Gd Gm Ek Er Ea Ex Em Eb Et Ss Sm Wg Wr Md) H) (a0 : Int32) (hs : S_X5_madeFits a0 Md)  (u : Int32) (hu : u = f_X5_madeFits a0 Md) (k : ∀ (H1 : Heap) (locs1 : List Loc), va_P (dC, dI) vwCl (wC ad cI cJ Bc Bl Pk Pr Pl Pc Pm Gf Gt Gx Gd Gm Ek Er Ea Ex Em Eb Et Ss Sm Wg Wr Md) H1 → va_S A0 s.heap H1 locs1 → W p l e R s m args below meth c H1 locs1 (cells + 0) (slots + 0) Q (F0 m (pc + 3) ls (.int u :: rest))) : W p l e R s m args below meth c H locs cells slots Q (F0 m pc ls (.int a0 :: .ref (ad 0) :: rest)) := by
  subst hu
  exact va_calli (va_runV (As := [.int a0]) (rest := rest) ⟨hx, hb, hml, hown, hts⟩ (c_X5_madeFits l dC dI cI cJ ad hi H.size Bc Bl Pk Pr Pl Pc Pm Gf Gt Gx Gd Gm Ek Er Ea Ex Em Eb Et Ss Sm Wg Wr Md a0 hs) (kV 1 hts hlk mI_X5_madeFits mN_RX5 mY_X5_madeFits mV_X5_madeFits rfl rfl (by decide +kernel) hR) ⟨fun a U g mk q => ⟨q.1, q.2.1, q.2.2.1, va_K.moved (u := U) (U := U.calling g mk a) (Vm.Alike.refl U.vm) q.2.2.2⟩, va_recv hK hP (ci := 7) (q0 := 0) rfl rfl, fun U hU hW => ⟨rfl, by rw [hU], by rw [hU]; exact hP, va_K.moved hW.alike hK⟩⟩ rfl rfl hz rfl (lv_room hw) hd hf) hS (fun q _ h => hA q h) (fun q h => hA q h) (fun r u t H1 locs1 ht hvm hw9 hB hz1 hk1 hS1 => by
    subst hw9
    exact k H1 locs1 (by rw [← ht]; exact hB) hS1)

def f_X5_putMade (a0 : Int32) (a1 : Int32) (a2 : Int32) (Bc : Nat → Int64) (Bl : Nat → Int32) (Pk : Nat → Int32) (Pr : Nat → Int32) (Pl : Nat → Int32) (Pc : Nat → Int64) (Pm : Int32) (Gd : Int32) (Md : Nat → Int64) : Nat × Int32 × (Nat → Int64) × (Nat → Int32) × (Nat → Int32) × (Nat → Int32) × (Nat → Int32) × (Nat → Int64) × Int32 := (let u2 := f_X5_madeFits a0 Md; (if u2 = 0 then (0, (0 : Int32), Bc, Bl, Pk, Pr, Pl, Pc, Pm) else (if a2 = 0 then (if Gd ≤ (Bl (f_X0_place a0 a1).toNatClampNeg) then (let u12 := f_X0_copyFromM (0 : Int32) a0 a1 Bc Md; (0, (1 : Int32), u12, (upd Bl (f_X0_place a0 a1).toNatClampNeg Gd), Pk, Pr, Pl, Pc, Pm)) else (if Pm < 0 then (3, 0, Bc, Bl, Pk, Pr, Pl, Pc, Pm) else (if Pm < (200 : Int32) then (let u19 := f_X3_keep a0 a1 Bc Bl Pk Pr Pl Pc Pm; (let u21 := f_X0_copyFromM (0 : Int32) a0 a1 Bc Md; (0, (1 : Int32), u21, (upd Bl (f_X0_place a0 a1).toNatClampNeg Gd), u19.1, u19.2.1, u19.2.2.1, u19.2.2.2.1, u19.2.2.2.2))) else (3, 0, Bc, Bl, Pk, Pr, Pl, Pc, Pm)))) else (let u6 := f_X0_copyFromM (0 : Int32) a0 a1 Bc Md; (0, (1 : Int32), u6, (upd Bl (f_X0_place a0 a1).toNatClampNeg (0 : Int32)), Pk, Pr, Pl, Pc, Pm)))))
def S_X5_putMade (a0 : Int32) (a1 : Int32) (a2 : Int32) (Bc : Nat → Int64) (Bl : Nat → Int32) (Pk : Nat → Int32) (Pr : Nat → Int32) (Pl : Nat → Int32) (Pc : Nat → Int64) (Pm : Int32) (Gd : Int32) (Md : Nat → Int64) : Prop := (S_X5_madeFits a0 Md) ∧ (∀ u2, u2 = f_X5_madeFits a0 Md → ((u2 = 0 → (True)) ∧ (¬ u2 = 0 → ((a2 = 0 → ((vp_in (f_X0_place a0 a1) 160) ∧ ((Gd ≤ (Bl (f_X0_place a0 a1).toNatClampNeg) → ((S_X0_copyFromM (0 : Int32) a0 a1 Bc Md) ∧ (∀ u12, u12 = f_X0_copyFromM (0 : Int32) a0 a1 Bc Md → ((vp_in (f_X0_place a0 a1) 160) ∧ (True))))) ∧ (¬ Gd ≤ (Bl (f_X0_place a0 a1).toNatClampNeg) → ((Pm < 0 → (True)) ∧ (¬ Pm < 0 → ((Pm < (200 : Int32) → ((S_X3_keep a0 a1 Bc Bl Pk Pr Pl Pc Pm) ∧ (∀ u19, u19 = f_X3_keep a0 a1 Bc Bl Pk Pr Pl Pc Pm → ((S_X0_copyFromM (0 : Int32) a0 a1 Bc Md) ∧ (∀ u21, u21 = f_X0_copyFromM (0 : Int32) a0 a1 Bc Md → ((vp_in (f_X0_place a0 a1) 160) ∧ (True))))))) ∧ (¬ Pm < (200 : Int32) → (True))))))))) ∧ (¬ a2 = 0 → ((S_X0_copyFromM (0 : Int32) a0 a1 Bc Md) ∧ (∀ u6, u6 = f_X0_copyFromM (0 : Int32) a0 a1 Bc Md → ((vp_in (f_X0_place a0 a1) 160) ∧ (True)))))))))
set_option maxHeartbeats 4000000 in
set_option maxRecDepth 100000 in
theorem c_X5_putMade (l : Launch) (hst : l.stackTraces = false) (dC : Nat → ClassId) (dI : Nat → Nat → Nat) (cI cJ : ClassId) (ad : Nat → Nat) (hi : fI 23 ad) (sz : Nat) (Bc : Nat → Int64) (Bl : Nat → Int32) (Pk : Nat → Int32) (Pr : Nat → Int32) (Pl : Nat → Int32) (Pc : Nat → Int64) (Pm : Int32) (Gf : Nat → Int32) (Gt : Nat → Int32) (Gx : Nat → Int32) (Gd : Int32) (Gm : Int32) (Ek : Nat → Int32) (Er : Nat → Int32) (Ea : Nat → Int32) (Ex : Nat → Int32) (Em : Int32) (Eb : Int32) (Et : Int32) (Ss : Nat → Int32) (Sm : Int32) (Wg : Nat → Int64) (Wr : Nat → Int64) (Md : Nat → Int64) (a0 : Int32) (a1 : Int32) (a2 : Int32) (hs : S_X5_putMade a0 a1 a2 Bc Bl Pk Pr Pl Pc Pm Gd Md) : vx_Met l yX5_putMade (mW yX5_putMade cX5_putMade 5 (some .int)) { frames := 6, cells := 1, slots := 6, locals := 92 } (va_Pc [.ref (ad 0), .int a0, .int a1, .int a2] (fun U => U.heap.size = sz ∧ va_P (dC, dI) vwCl (wC ad cI cJ Bc Bl Pk Pr Pl Pc Pm Gf Gt Gx Gd Gm Ek Er Ea Ex Em Eb Et Ss Sm Wg Wr Md) U.heap ∧ va_K (dC, dI) vwCl [(cI, .int), (cJ, .long)] U ∧ cxt (fA 23 ad sz) U U.heap)) (va_Qi (fun (r : Int32) (_ : Unit) => (f_X5_putMade a0 a1 a2 Bc Bl Pk Pr Pl Pc Pm Gd Md).1 = 0 ∧ r = (f_X5_putMade a0 a1 a2 Bc Bl Pk Pr Pl Pc Pm Gd Md).2.1) (fun _ t => va_P (dC, dI) vwCl (wC ad cI cJ ((f_X5_putMade a0 a1 a2 Bc Bl Pk Pr Pl Pc Pm Gd Md).2.2.1) ((f_X5_putMade a0 a1 a2 Bc Bl Pk Pr Pl Pc Pm Gd Md).2.2.2.1) ((f_X5_putMade a0 a1 a2 Bc Bl Pk Pr Pl Pc Pm Gd Md).2.2.2.2.1) ((f_X5_putMade a0 a1 a2 Bc Bl Pk Pr Pl Pc Pm Gd Md).2.2.2.2.2.1) ((f_X5_putMade a0 a1 a2 Bc Bl Pk Pr Pl Pc Pm Gd Md).2.2.2.2.2.2.1) ((f_X5_putMade a0 a1 a2 Bc Bl Pk Pr Pl Pc Pm Gd Md).2.2.2.2.2.2.2.1) ((f_X5_putMade a0 a1 a2 Bc Bl Pk Pr Pl Pc Pm Gd Md).2.2.2.2.2.2.2.2) Gf Gt Gx Gd Gm Ek Er Ea Ex Em Eb Et Ss Sm Wg Wr Md) t.heap) (fA 23 ad sz)) (vx_X (fun _ : Unit => ¬ (f_X5_putMade a0 a1 a2 Bc Bl Pk Pr Pl Pc Pm Gd Md).1 = 0) (fun E _ t => E = exN ((f_X5_putMade a0 a1 a2 Bc Bl Pk Pr Pl Pc Pm Gd Md).1) ∧ va_P (dC, dI) vwCl (wC ad cI cJ ((f_X5_putMade a0 a1 a2 Bc Bl Pk Pr Pl Pc Pm Gd Md).2.2.1) ((f_X5_putMade a0 a1 a2 Bc Bl Pk Pr Pl Pc Pm Gd Md).2.2.2.1) ((f_X5_putMade a0 a1 a2 Bc Bl Pk Pr Pl Pc Pm Gd Md).2.2.2.2.1) ((f_X5_putMade a0 a1 a2 Bc Bl Pk Pr Pl Pc Pm Gd Md).2.2.2.2.2.1) ((f_X5_putMade a0 a1 a2 Bc Bl Pk Pr Pl Pc Pm Gd Md).2.2.2.2.2.2.1) ((f_X5_putMade a0 a1 a2 Bc Bl Pk Pr Pl Pc Pm Gd Md).2.2.2.2.2.2.2.1) ((f_X5_putMade a0 a1 a2 Bc Bl Pk Pr Pl Pc Pm Gd Md).2.2.2.2.2.2.2.2) Gf Gt Gx Gd Gm Ek Er Ea Ex Em Eb Et Ss Sm Wg Wr Md) t.heap) (fA 23 ad sz)) 1 6 (fA 23 ad sz) := by
  refine vx_ofW (cc := cX5_putMade) (maxL := 5) (ret := (some .int)) (by decide) rfl ?_
  intro p e s m args below meth c s₁ B hml ht hv
  obtain ⟨rfl, hsz, hP, hK, hC⟩ := hv
  have hx := B.exec
  have hb := B.bytes
  have hr := B.returns
  have hts := mW_hts (atoms_spec (ws := (mW yX5_putMade cX5_putMade 5 (some .int))) B.pre)
  have hown : s.vm.findClass RX5 = some m.cls := findClass_of_methodNamed B.named
  have hlocks := B.notSynchronized
  subst hsz
  have hA : ∀ (n : Nat) (q : Nat), s.heap.size ≤ n → n ≤ q → fA 23 ad s.heap.size q := fun n q h1 h2 => Or.inr (Nat.le_trans h1 h2)
  have hS : va_S (fA 23 ad s.heap.size) s.heap s.heap [] := va_S.rf
  have hA : ∀ q, s.heap.size ≤ q → (fA 23 ad s.heap.size) q := fun q h => Or.inr h
  unfold S_X5_putMade at hs
  have hl := lv_entry ([.ref (ad 0), .int a0, .int a1, .int a2]) (n := 5) (Nat.le_of_ble_eq_true rfl)
  rw [lg_entry_eq]
  generalize (lg_sl ([.ref (ad 0), .int a0, .int a1, .int a2]) ++ List.replicate (5 - (lg_sl ([.ref (ad 0), .int a0, .int a1, .int a2])).length) Slot.unset).toArray = ls at hl ⊢
  have hl : lv_has ls 5 [(0, .ref (ad 0)), (1, .int a0), (2, .int a1), (3, .int a2)] := hl
  refine W_gen (fun Q9 hQ9 => ?_)
  refine lv_aload_n hx hb dX5_putMade_0 rfl (lv_at hl 0 rfl) ?_
  refine lv_iload_n hx hb dX5_putMade_1 rfl (lv_at hl 1 rfl) ?_
  obtain ⟨h1, hs⟩ := hs
  obtain ⟨u2, hu2⟩ : ∃ z, z = f_X5_madeFits a0 Md := ⟨_, rfl⟩
  have hs := hs u2 hu2
  refine q_X5_madeFits hx hb hml hown hts mM_RX5_274 ⟨Nat.le_of_ble_eq_true rfl, Nat.le_of_ble_eq_true rfl⟩ ⟨Nat.le_of_ble_eq_true rfl, Nat.le_of_ble_eq_true rfl⟩ hl.1 (Nat.le_of_ble_eq_true rfl) hS dX5_putMade_2 (fun _ h9 => fA_mono hS.1 h9) hi hK hP a0 h1 u2 hu2 (fun H locs hP hS => ?_)
  refine lv_if_ne (tgt := 10) hx hb dX5_putMade_5 (by decide) (fun c3 => ?_) (fun c3 => ?_)
  · have hs := hs.2 c3
    refine lv_iload_n hx hb dX5_putMade_10 rfl (lv_at hl 1 rfl) ?_
    refine lv_iload_n hx hb dX5_putMade_11 rfl (lv_at hl 2 rfl) ?_
    refine q_X0_place hx hb hml hown hts mM_RX5_249 ⟨Nat.le_of_ble_eq_true rfl, Nat.le_of_ble_eq_true rfl⟩ ⟨Nat.le_of_ble_eq_true rfl, Nat.le_of_ble_eq_true rfl⟩ hl.1 (Nat.le_of_ble_eq_true rfl) hS dX5_putMade_12 hA a0 a1 (fun locs hS => ?_)
    refine lv_istore (lv' := [(4, .int (f_X0_place a0 a1)), (0, .ref (ad 0)), (1, .int a0), (2, .int a1), (3, .int a2)]) hx hb dX5_putMade_15 hl (by decide) rfl (fun ls hl => ?_)
    refine lv_iload_n hx hb dX5_putMade_17 rfl (lv_at hl 4 rfl) ?_
    refine lv_if_ne (tgt := 88) hx hb dX5_putMade_18 (by decide) (fun c4 => ?_) (fun c4 => ?_)
    · have hs := hs.2 c4
      refine lv_aload_n hx hb dX5_putMade_88 rfl (lv_at hl 1 rfl) ?_
      refine va_get (D := (dC, dI)) (ci := 7) (v := .ref (ad 1)) (C := RX5) (T := TX5) (N := 8) hx hb hts iW_X5 hown hK hP 0 rfl rfl 0 (by decide) (hts _ mF_RX5_10) (fun _ h9 => h9) rfl dX5_putMade_89 ?_
      refine lv_aload_n hx hb dX5_putMade_92 rfl (lv_at hl 1 rfl) ?_
      refine va_get (D := (dC, dI)) (ci := 7) (v := .ref (ad 22)) (C := RX5) (T := TX5) (N := 8) hx hb hts iW_X5 hown hK hP 0 rfl rfl 7 (by decide) (hts _ mF_RX5_51) (fun _ h9 => h9) rfl dX5_putMade_93 ?_
      refine lv_iconst (v := 0) hx hb dX5_putMade_96 (by decide) ?_
      refine lv_iload_n hx hb dX5_putMade_97 rfl (lv_at hl 2 rfl) ?_
      refine lv_iload_n hx hb dX5_putMade_98 rfl (lv_at hl 3 rfl) ?_
      obtain ⟨h5, hs⟩ := hs
      obtain ⟨u6, hu6⟩ : ∃ z, z = f_X0_copyFromM (0 : Int32) a0 a1 Bc Md := ⟨_, rfl⟩
      have hs := hs u6 hu6
      refine q_X0_copyFromM hx hb hml hown hts mM_RX5_284 ⟨Nat.le_of_ble_eq_true rfl, Nat.le_of_ble_eq_true rfl⟩ ⟨Nat.le_of_ble_eq_true rfl, Nat.le_of_ble_eq_true rfl⟩ hl.1 (Nat.le_of_ble_eq_true rfl) hS dX5_putMade_99 (fun _ h9 => fA_mono hS.1 h9) hi hK hP hC (0 : Int32) a0 a1 h5 u6 hu6 (fun H locs hP hS => ?_)
      refine lv_aload_n hx hb dX5_putMade_102 rfl (lv_at hl 1 rfl) ?_
      refine va_get (D := (dC, dI)) (ci := 7) (v := .ref (ad 1)) (C := RX5) (T := TX5) (N := 8) hx hb hts iW_X5 hown hK hP 0 rfl rfl 0 (by decide) (hts _ mF_RX5_10) (fun _ h9 => h9) rfl dX5_putMade_103 ?_
      refine va_get (D := (dC, dI)) (ci := 2) (v := .ref (ad 3)) (C := RX0) (T := TX0) (N := 2) hx hb hts iW_X0 hown hK hP 1 rfl rfl 1 (by decide) (hts _ mF_RX5_246) (fun _ h9 => h9) rfl dX5_putMade_106 ?_
      refine lv_iload hx hb dX5_putMade_109 (lv_at hl 0 rfl) ?_
      refine lv_iload_n hx hb dX5_putMade_111 rfl (lv_at hl 4 rfl) ?_
      refine lv_if_eq (tgt := 119) hx hb dX5_putMade_112 (by decide) (fun c7 => ?_) (fun c7 => ?_)
      · exact absurd c7 c4
      · refine lv_iconst (v := 0) hx hb dX5_putMade_115 (by decide) ?_
        refine lv_goto (tgt := 126) hx hb dX5_putMade_116 (by decide) ?_
        obtain ⟨h8, hs⟩ := hs
        refine va_iast hx hb hK hP (fA_D hi rfl) hS 3 0 rfl rfl h8 dX5_putMade_126 (fun H locs hP _ hS => ?_)
        have hP : va_P (dC, dI) vwCl (wC ad cI cJ u6 (upd Bl (f_X0_place a0 a1).toNatClampNeg (0 : Int32)) Pk Pr Pl Pc Pm Gf Gt Gx Gd Gm Ek Er Ea Ex Em Eb Et Ss Sm Wg Wr Md) H := hP
        refine lv_iconst (v := 1) hx hb dX5_putMade_127 (by decide) ?_
        rw [hQ9]
        have hf : f_X5_putMade a0 a1 a2 Bc Bl Pk Pr Pl Pc Pm Gd Md = (0, (1 : Int32), u6, (upd Bl (f_X0_place a0 a1).toNatClampNeg (0 : Int32)), Pk, Pr, Pl, Pc, Pm) := by simp only [f_X5_putMade, ← hu2, if_neg c3, if_neg c4, ← hu6]
        refine vx_ret ?_
        refine W.widen (k := 1) (n := 6) (Nat.le_of_ble_eq_true rfl) (Nat.le_of_ble_eq_true rfl) ?_
        exact W.iret (v := (1 : Int32)) hx hb hr (fun t ht hW => ⟨⟨(1 : Int32), (), rfl, ⟨by rw [hf], by rw [hf]⟩, by rw [hf]; show va_P (dC, dI) vwCl _ t.heap; rw [ht]; exact hP⟩, hS.F ht⟩) hS.2.2 dX5_putMade_128
    · have hs := hs.1 c4
      refine lv_aload_n hx hb dX5_putMade_21 rfl (lv_at hl 1 rfl) ?_
      refine va_get (D := (dC, dI)) (ci := 7) (v := .ref (ad 1)) (C := RX5) (T := TX5) (N := 8) hx hb hts iW_X5 hown hK hP 0 rfl rfl 0 (by decide) (hts _ mF_RX5_10) (fun _ h9 => h9) rfl dX5_putMade_22 ?_
      refine va_get (D := (dC, dI)) (ci := 2) (v := .ref (ad 3)) (C := RX0) (T := TX0) (N := 2) hx hb hts iW_X0 hown hK hP 1 rfl rfl 1 (by decide) (hts _ mF_RX5_246) (fun _ h9 => h9) rfl dX5_putMade_25 ?_
      refine lv_iload hx hb dX5_putMade_28 (lv_at hl 0 rfl) ?_
      obtain ⟨h9, hs⟩ := hs
      refine va_iald hx hb hK hP 3 0 rfl rfl h9 dX5_putMade_30 ?_
      refine lv_aload_n hx hb dX5_putMade_31 rfl (lv_at hl 1 rfl) ?_
      refine va_get (D := (dC, dI)) (ci := 7) (v := .ref (ad 9)) (C := RX5) (T := TX5) (N := 8) hx hb hts iW_X5 hown hK hP 0 rfl rfl 2 (by decide) (hts _ mF_RX5_26) (fun _ h9 => h9) rfl dX5_putMade_32 ?_
      refine va_get (D := (dC, dI)) (ci := 4) (v := .int Gd) (C := RX2) (T := TX2) (N := 5) hx hb hts iW_X2 hown hK hP 9 rfl rfl 3 (by decide) (hts _ mF_RX5_134) (fun _ h9 => h9) rfl dX5_putMade_35 ?_
      refine lv_icmp_ge (tgt := 88) hx hb dX5_putMade_38 (by decide) (fun c10 => ?_) (fun c10 => ?_)
      · have hs := hs.1 c10
        refine lv_aload_n hx hb dX5_putMade_88 rfl (lv_at hl 1 rfl) ?_
        refine va_get (D := (dC, dI)) (ci := 7) (v := .ref (ad 1)) (C := RX5) (T := TX5) (N := 8) hx hb hts iW_X5 hown hK hP 0 rfl rfl 0 (by decide) (hts _ mF_RX5_10) (fun _ h9 => h9) rfl dX5_putMade_89 ?_
        refine lv_aload_n hx hb dX5_putMade_92 rfl (lv_at hl 1 rfl) ?_
        refine va_get (D := (dC, dI)) (ci := 7) (v := .ref (ad 22)) (C := RX5) (T := TX5) (N := 8) hx hb hts iW_X5 hown hK hP 0 rfl rfl 7 (by decide) (hts _ mF_RX5_51) (fun _ h9 => h9) rfl dX5_putMade_93 ?_
        refine lv_iconst (v := 0) hx hb dX5_putMade_96 (by decide) ?_
        refine lv_iload_n hx hb dX5_putMade_97 rfl (lv_at hl 2 rfl) ?_
        refine lv_iload_n hx hb dX5_putMade_98 rfl (lv_at hl 3 rfl) ?_
        obtain ⟨h11, hs⟩ := hs
        obtain ⟨u12, hu12⟩ : ∃ z, z = f_X0_copyFromM (0 : Int32) a0 a1 Bc Md := ⟨_, rfl⟩
        have hs := hs u12 hu12
        refine q_X0_copyFromM hx hb hml hown hts mM_RX5_284 ⟨Nat.le_of_ble_eq_true rfl, Nat.le_of_ble_eq_true rfl⟩ ⟨Nat.le_of_ble_eq_true rfl, Nat.le_of_ble_eq_true rfl⟩ hl.1 (Nat.le_of_ble_eq_true rfl) hS dX5_putMade_99 (fun _ h9 => fA_mono hS.1 h9) hi hK hP hC (0 : Int32) a0 a1 h11 u12 hu12 (fun H locs hP hS => ?_)
        refine lv_aload_n hx hb dX5_putMade_102 rfl (lv_at hl 1 rfl) ?_
        refine va_get (D := (dC, dI)) (ci := 7) (v := .ref (ad 1)) (C := RX5) (T := TX5) (N := 8) hx hb hts iW_X5 hown hK hP 0 rfl rfl 0 (by decide) (hts _ mF_RX5_10) (fun _ h9 => h9) rfl dX5_putMade_103 ?_
        refine va_get (D := (dC, dI)) (ci := 2) (v := .ref (ad 3)) (C := RX0) (T := TX0) (N := 2) hx hb hts iW_X0 hown hK hP 1 rfl rfl 1 (by decide) (hts _ mF_RX5_246) (fun _ h9 => h9) rfl dX5_putMade_106 ?_
        refine lv_iload hx hb dX5_putMade_109 (lv_at hl 0 rfl) ?_
        refine lv_iload_n hx hb dX5_putMade_111 rfl (lv_at hl 4 rfl) ?_
        refine lv_if_eq (tgt := 119) hx hb dX5_putMade_112 (by decide) (fun c13 => ?_) (fun c13 => ?_)
        · refine lv_aload_n hx hb dX5_putMade_119 rfl (lv_at hl 1 rfl) ?_
          refine va_get (D := (dC, dI)) (ci := 7) (v := .ref (ad 9)) (C := RX5) (T := TX5) (N := 8) hx hb hts iW_X5 hown hK hP 0 rfl rfl 2 (by decide) (hts _ mF_RX5_26) (fun _ h9 => h9) rfl dX5_putMade_120 ?_
          refine va_get (D := (dC, dI)) (ci := 4) (v := .int Gd) (C := RX2) (T := TX2) (N := 5) hx hb hts iW_X2 hown hK hP 9 rfl rfl 3 (by decide) (hts _ mF_RX5_134) (fun _ h9 => h9) rfl dX5_putMade_123 ?_
          obtain ⟨h14, hs⟩ := hs
          refine va_iast hx hb hK hP (fA_D hi rfl) hS 3 0 rfl rfl h14 dX5_putMade_126 (fun H locs hP _ hS => ?_)
          have hP : va_P (dC, dI) vwCl (wC ad cI cJ u12 (upd Bl (f_X0_place a0 a1).toNatClampNeg Gd) Pk Pr Pl Pc Pm Gf Gt Gx Gd Gm Ek Er Ea Ex Em Eb Et Ss Sm Wg Wr Md) H := hP
          refine lv_iconst (v := 1) hx hb dX5_putMade_127 (by decide) ?_
          rw [hQ9]
          have hf : f_X5_putMade a0 a1 a2 Bc Bl Pk Pr Pl Pc Pm Gd Md = (0, (1 : Int32), u12, (upd Bl (f_X0_place a0 a1).toNatClampNeg Gd), Pk, Pr, Pl, Pc, Pm) := by simp only [f_X5_putMade, ← hu2, if_neg c3, if_pos c4, if_pos c10, ← hu12]
          refine vx_ret ?_
          refine W.widen (k := 1) (n := 6) (Nat.le_of_ble_eq_true rfl) (Nat.le_of_ble_eq_true rfl) ?_
          exact W.iret (v := (1 : Int32)) hx hb hr (fun t ht hW => ⟨⟨(1 : Int32), (), rfl, ⟨by rw [hf], by rw [hf]⟩, by rw [hf]; show va_P (dC, dI) vwCl _ t.heap; rw [ht]; exact hP⟩, hS.F ht⟩) hS.2.2 dX5_putMade_128
        · exact absurd c4 c13
      · have hs := hs.2 c10
        refine lv_aload_n hx hb dX5_putMade_41 rfl (lv_at hl 1 rfl) ?_
        refine va_get (D := (dC, dI)) (ci := 7) (v := .ref (ad 4)) (C := RX5) (T := TX5) (N := 8) hx hb hts iW_X5 hown hK hP 0 rfl rfl 1 (by decide) (hts _ mF_RX5_19) (fun _ h9 => h9) rfl dX5_putMade_42 ?_
        refine va_get (D := (dC, dI)) (ci := 5) (v := .int Pm) (C := RX3) (T := TX3) (N := 5) hx hb hts iW_X3 hown hK hP 4 rfl rfl 4 (by decide) (hts _ mF_RX5_143) (fun _ h9 => h9) rfl dX5_putMade_45 ?_
        refine lv_if_lt (tgt := 64) hx hb dX5_putMade_48 (by decide) (fun c15 => ?_) (fun c15 => ?_)
        · have hs := hs.1 c15
          rw [hQ9]
          have hf : f_X5_putMade a0 a1 a2 Bc Bl Pk Pr Pl Pc Pm Gd Md = (3, 0, Bc, Bl, Pk, Pr, Pl, Pc, Pm) := by simp only [f_X5_putMade, ← hu2, if_neg c3, if_pos c4, if_neg c10, if_pos c15]
          obtain ⟨sa16, hsa16⟩ := hC.str 6 _ rfl
          refine vx_throwSW (mc := 1) (ms := 6) (ik := 138) (ic := 142) (is := 278) (own := RX5) (cls := x_UOE) (text := "no more are KEPT") (names := x_nam) hx hb hst hown (by decide) nm_x (hts _ mC_RX5_138) (hts _ mN_UnsupportedOperationException) hsa16 (xw_UOE hts hC) xg_UOE hC.1 hC.2.1 hS (by rw [hml]; exact hl.1) dX5_putMade_64 dX5_putMade_67 dX5_putMade_68 dX5_putMade_71 dX5_putMade_74 (fun x hx => (ht x hx).elim) (Nat.le_of_ble_eq_true rfl) (Nat.le_of_ble_eq_true rfl) (Nat.le_of_ble_eq_true rfl) (Nat.le_of_ble_eq_true rfl) hlocks (fun t hv hz hk => ⟨(), by rw [hf]; exact (by decide : ¬ (3 : Nat) = 0), ⟨by rw [hf]; rfl, by rw [hf]; exact hP.kept (fun k z hkz => hk z.1 (hP k z hkz).lt)⟩, ⟨Nat.le_trans hS.1 hz, fun q h1 h2 => (hk q (Nat.lt_of_lt_of_le h1 hS.1)).trans (hS.2.1 q h1 h2)⟩⟩) hS.2.2 (Nat.le_of_ble_eq_true rfl) (Nat.le_of_ble_eq_true rfl)
        · have hs := hs.2 c15
          refine lv_aload_n hx hb dX5_putMade_51 rfl (lv_at hl 1 rfl) ?_
          refine va_get (D := (dC, dI)) (ci := 7) (v := .ref (ad 4)) (C := RX5) (T := TX5) (N := 8) hx hb hts iW_X5 hown hK hP 0 rfl rfl 1 (by decide) (hts _ mF_RX5_19) (fun _ h9 => h9) rfl dX5_putMade_52 ?_
          refine va_get (D := (dC, dI)) (ci := 5) (v := .int Pm) (C := RX3) (T := TX3) (N := 5) hx hb hts iW_X3 hown hK hP 4 rfl rfl 4 (by decide) (hts _ mF_RX5_143) (fun _ h9 => h9) rfl dX5_putMade_55 ?_
          refine lv_sipush (v := 200) hx hb dX5_putMade_58 (by decide) ?_
          refine lv_icmp_lt (tgt := 75) hx hb dX5_putMade_61 (by decide) (fun c17 => ?_) (fun c17 => ?_)
          · have hs := hs.1 c17
            refine lv_aload_n hx hb dX5_putMade_75 rfl (lv_at hl 1 rfl) ?_
            refine va_get (D := (dC, dI)) (ci := 7) (v := .ref (ad 4)) (C := RX5) (T := TX5) (N := 8) hx hb hts iW_X5 hown hK hP 0 rfl rfl 1 (by decide) (hts _ mF_RX5_19) (fun _ h9 => h9) rfl dX5_putMade_76 ?_
            refine lv_aload_n hx hb dX5_putMade_79 rfl (lv_at hl 1 rfl) ?_
            refine va_get (D := (dC, dI)) (ci := 7) (v := .ref (ad 1)) (C := RX5) (T := TX5) (N := 8) hx hb hts iW_X5 hown hK hP 0 rfl rfl 0 (by decide) (hts _ mF_RX5_10) (fun _ h9 => h9) rfl dX5_putMade_80 ?_
            refine lv_iload_n hx hb dX5_putMade_83 rfl (lv_at hl 2 rfl) ?_
            refine lv_iload_n hx hb dX5_putMade_84 rfl (lv_at hl 3 rfl) ?_
            obtain ⟨h18, hs⟩ := hs
            obtain ⟨u19, hu19⟩ : ∃ z, z = f_X3_keep a0 a1 Bc Bl Pk Pr Pl Pc Pm := ⟨_, rfl⟩
            have hs := hs u19 hu19
            refine q_X3_keep hx hb hml hown hts mM_RX5_280 ⟨Nat.le_of_ble_eq_true rfl, Nat.le_of_ble_eq_true rfl⟩ ⟨Nat.le_of_ble_eq_true rfl, Nat.le_of_ble_eq_true rfl⟩ hl.1 (Nat.le_of_ble_eq_true rfl) hS dX5_putMade_85 (fun _ h9 => fA_mono hS.1 h9) hi hK hP hC a0 a1 h18 u19 hu19 (fun H locs hP hS => ?_)
            refine lv_aload_n hx hb dX5_putMade_88 rfl (lv_at hl 1 rfl) ?_
            refine va_get (D := (dC, dI)) (ci := 7) (v := .ref (ad 1)) (C := RX5) (T := TX5) (N := 8) hx hb hts iW_X5 hown hK hP 0 rfl rfl 0 (by decide) (hts _ mF_RX5_10) (fun _ h9 => h9) rfl dX5_putMade_89 ?_
            refine lv_aload_n hx hb dX5_putMade_92 rfl (lv_at hl 1 rfl) ?_
            refine va_get (D := (dC, dI)) (ci := 7) (v := .ref (ad 22)) (C := RX5) (T := TX5) (N := 8) hx hb hts iW_X5 hown hK hP 0 rfl rfl 7 (by decide) (hts _ mF_RX5_51) (fun _ h9 => h9) rfl dX5_putMade_93 ?_
            refine lv_iconst (v := 0) hx hb dX5_putMade_96 (by decide) ?_
            refine lv_iload_n hx hb dX5_putMade_97 rfl (lv_at hl 2 rfl) ?_
            refine lv_iload_n hx hb dX5_putMade_98 rfl (lv_at hl 3 rfl) ?_
            obtain ⟨h20, hs⟩ := hs
            obtain ⟨u21, hu21⟩ : ∃ z, z = f_X0_copyFromM (0 : Int32) a0 a1 Bc Md := ⟨_, rfl⟩
            have hs := hs u21 hu21
            refine q_X0_copyFromM hx hb hml hown hts mM_RX5_284 ⟨Nat.le_of_ble_eq_true rfl, Nat.le_of_ble_eq_true rfl⟩ ⟨Nat.le_of_ble_eq_true rfl, Nat.le_of_ble_eq_true rfl⟩ hl.1 (Nat.le_of_ble_eq_true rfl) hS dX5_putMade_99 (fun _ h9 => fA_mono hS.1 h9) hi hK hP hC (0 : Int32) a0 a1 h20 u21 hu21 (fun H locs hP hS => ?_)
            refine lv_aload_n hx hb dX5_putMade_102 rfl (lv_at hl 1 rfl) ?_
            refine va_get (D := (dC, dI)) (ci := 7) (v := .ref (ad 1)) (C := RX5) (T := TX5) (N := 8) hx hb hts iW_X5 hown hK hP 0 rfl rfl 0 (by decide) (hts _ mF_RX5_10) (fun _ h9 => h9) rfl dX5_putMade_103 ?_
            refine va_get (D := (dC, dI)) (ci := 2) (v := .ref (ad 3)) (C := RX0) (T := TX0) (N := 2) hx hb hts iW_X0 hown hK hP 1 rfl rfl 1 (by decide) (hts _ mF_RX5_246) (fun _ h9 => h9) rfl dX5_putMade_106 ?_
            refine lv_iload hx hb dX5_putMade_109 (lv_at hl 0 rfl) ?_
            refine lv_iload_n hx hb dX5_putMade_111 rfl (lv_at hl 4 rfl) ?_
            refine lv_if_eq (tgt := 119) hx hb dX5_putMade_112 (by decide) (fun c22 => ?_) (fun c22 => ?_)
            · refine lv_aload_n hx hb dX5_putMade_119 rfl (lv_at hl 1 rfl) ?_
              refine va_get (D := (dC, dI)) (ci := 7) (v := .ref (ad 9)) (C := RX5) (T := TX5) (N := 8) hx hb hts iW_X5 hown hK hP 0 rfl rfl 2 (by decide) (hts _ mF_RX5_26) (fun _ h9 => h9) rfl dX5_putMade_120 ?_
              refine va_get (D := (dC, dI)) (ci := 4) (v := .int Gd) (C := RX2) (T := TX2) (N := 5) hx hb hts iW_X2 hown hK hP 9 rfl rfl 3 (by decide) (hts _ mF_RX5_134) (fun _ h9 => h9) rfl dX5_putMade_123 ?_
              obtain ⟨h23, hs⟩ := hs
              refine va_iast hx hb hK hP (fA_D hi rfl) hS 3 0 rfl rfl h23 dX5_putMade_126 (fun H locs hP _ hS => ?_)
              have hP : va_P (dC, dI) vwCl (wC ad cI cJ u21 (upd Bl (f_X0_place a0 a1).toNatClampNeg Gd) u19.1 u19.2.1 u19.2.2.1 u19.2.2.2.1 u19.2.2.2.2 Gf Gt Gx Gd Gm Ek Er Ea Ex Em Eb Et Ss Sm Wg Wr Md) H := hP
              refine lv_iconst (v := 1) hx hb dX5_putMade_127 (by decide) ?_
              rw [hQ9]
              have hf : f_X5_putMade a0 a1 a2 Bc Bl Pk Pr Pl Pc Pm Gd Md = (0, (1 : Int32), u21, (upd Bl (f_X0_place a0 a1).toNatClampNeg Gd), u19.1, u19.2.1, u19.2.2.1, u19.2.2.2.1, u19.2.2.2.2) := by simp only [f_X5_putMade, ← hu2, if_neg c3, if_pos c4, if_neg c10, if_neg c15, if_pos c17, ← hu19, ← hu21]
              refine vx_ret ?_
              refine W.widen (k := 1) (n := 6) (Nat.le_of_ble_eq_true rfl) (Nat.le_of_ble_eq_true rfl) ?_
              exact W.iret (v := (1 : Int32)) hx hb hr (fun t ht hW => ⟨⟨(1 : Int32), (), rfl, ⟨by rw [hf], by rw [hf]⟩, by rw [hf]; show va_P (dC, dI) vwCl _ t.heap; rw [ht]; exact hP⟩, hS.F ht⟩) hS.2.2 dX5_putMade_128
            · exact absurd c4 c22
          · have hs := hs.2 c17
            rw [hQ9]
            have hf : f_X5_putMade a0 a1 a2 Bc Bl Pk Pr Pl Pc Pm Gd Md = (3, 0, Bc, Bl, Pk, Pr, Pl, Pc, Pm) := by simp only [f_X5_putMade, ← hu2, if_neg c3, if_pos c4, if_neg c10, if_neg c15, if_neg c17]
            obtain ⟨sa24, hsa24⟩ := hC.str 6 _ rfl
            refine vx_throwSW (mc := 1) (ms := 6) (ik := 138) (ic := 142) (is := 278) (own := RX5) (cls := x_UOE) (text := "no more are KEPT") (names := x_nam) hx hb hst hown (by decide) nm_x (hts _ mC_RX5_138) (hts _ mN_UnsupportedOperationException) hsa24 (xw_UOE hts hC) xg_UOE hC.1 hC.2.1 hS (by rw [hml]; exact hl.1) dX5_putMade_64 dX5_putMade_67 dX5_putMade_68 dX5_putMade_71 dX5_putMade_74 (fun x hx => (ht x hx).elim) (Nat.le_of_ble_eq_true rfl) (Nat.le_of_ble_eq_true rfl) (Nat.le_of_ble_eq_true rfl) (Nat.le_of_ble_eq_true rfl) hlocks (fun t hv hz hk => ⟨(), by rw [hf]; exact (by decide : ¬ (3 : Nat) = 0), ⟨by rw [hf]; rfl, by rw [hf]; exact hP.kept (fun k z hkz => hk z.1 (hP k z hkz).lt)⟩, ⟨Nat.le_trans hS.1 hz, fun q h1 h2 => (hk q (Nat.lt_of_lt_of_le h1 hS.1)).trans (hS.2.1 q h1 h2)⟩⟩) hS.2.2 (Nat.le_of_ble_eq_true rfl) (Nat.le_of_ble_eq_true rfl)
  · have hs := hs.1 c3
    refine lv_iconst (v := 0) hx hb dX5_putMade_8 (by decide) ?_
    rw [hQ9]
    have hf : f_X5_putMade a0 a1 a2 Bc Bl Pk Pr Pl Pc Pm Gd Md = (0, (0 : Int32), Bc, Bl, Pk, Pr, Pl, Pc, Pm) := by simp only [f_X5_putMade, ← hu2, if_pos c3]
    refine vx_ret ?_
    refine W.widen (k := 1) (n := 6) (Nat.le_of_ble_eq_true rfl) (Nat.le_of_ble_eq_true rfl) ?_
    exact W.iret (v := (0 : Int32)) hx hb hr (fun t ht hW => ⟨⟨(0 : Int32), (), rfl, ⟨by rw [hf], by rw [hf]⟩, by rw [hf]; show va_P (dC, dI) vwCl _ t.heap; rw [ht]; exact hP⟩, hS.F ht⟩) hS.2.2 dX5_putMade_9
theorem q_X5_putMade {p : Program} {l : Launch} {e : Env} {R : Room} {s : State} {m : MethodId} {args : Array Value} {below : List Frame} {meth : Method} {c : Code} {H : Heap} {locs : List Loc} {cells slots : Nat} {Q : State → Prop} {pc : Nat} {ls : Array Slot} {rest : List Value} {cc : ByteArray} {nL idx : Nat} {own : String} {A0 : Nat → Prop} {dC : Nat → ClassId} {dI : Nat → Nat → Nat} {cI cJ : ClassId} {ad : Nat → Nat} {Bc : Nat → Int64} {Bl : Nat → Int32} {Pk : Nat → Int32} {Pr : Nat → Int32} {Pl : Nat → Int32} {Pc : Nat → Int64} {Pm : Int32} {Gf : Nat → Int32} {Gt : Nat → Int32} {Gx : Nat → Int32} {Gd : Int32} {Gm : Int32} {Ek : Nat → Int32} {Er : Nat → Int32} {Ea : Nat → Int32} {Ex : Nat → Int32} {Em : Int32} {Eb : Int32} {Et : Int32} {Ss : Nat → Int32} {Sm : Int32} {Wg : Nat → Int64} {Wr : Nat → Int64} {Md : Nat → Int64} (hst : l.stackTraces = false) (hx : p.tables.exec = Jvm.exec) (hb : c.code = cc) (hml : c.maxLocals = nL) (hown : s.vm.findClass own = some m.cls) (hts : ∀ w ∈ bigW, w.before args s = true) (hlk : Cond.methodLink own idx yX5_putMade ∈ bigW) (hR : 7 ≤ R.frames ∧ 116 ≤ R.locals) (hf : cells + 1 ≤ R.cells ∧ slots + 6 ≤ R.slots) (hz : ls.size = nL) (hw : (rest.map fun v => v.category).sum ≤ 8) (hS : va_S A0 s.heap H locs) (hd : decode cc pc = .ok (.invokevirtual idx, 3)) (hA : ∀ q, fA 23 ad H.size q → A0 q) (hi : fI 23 ad) (hK : va_K (dC, dI) vwCl [(cI, .int), (cJ, .long)] s) (hP : va_P (dC, dI) vwCl (wC ad cI cJ Bc Bl Pk Pr Pl Pc Pm Gf Gt Gx Gd Gm Ek Er Ea Ex Em Eb Et Ss Sm Wg Wr Md) H) (hC : cxt A0 s s.heap) (a0 : Int32) (a1 : Int32) (a2 : Int32) (hs : S_X5_putMade a0 a1 a2 Bc Bl Pk Pr Pl Pc Pm Gd Md)  (u : Nat × Int32 × (Nat → Int64) × (Nat → Int32) × (Nat → Int32) × (Nat → Int32) × (Nat → Int32) × (Nat → Int64) × Int32) (hu : u = f_X5_putMade a0 a1 a2 Bc Bl Pk Pr Pl Pc Pm Gd Md) (kx : ∀ {E : String} (hE : E = exN u.1) (ho : ¬ u.1 = 0) (H1 : Heap) (locs1 : List Loc), va_P (dC, dI) vwCl (wC ad cI cJ u.2.2.1 u.2.2.2.1 u.2.2.2.2.1 u.2.2.2.2.2.1 u.2.2.2.2.2.2.1 u.2.2.2.2.2.2.2.1 u.2.2.2.2.2.2.2.2 Gf Gt Gx Gd Gm Ek Er Ea Ex Em Eb Et Ss Sm Wg Wr Md) H1 → va_S A0 s.heap H1 locs1 → ∀ (ce : Cell) (q9 : Addr), H1[q9]? = some ce → ce.vm = .none → s.vm.findClass E = some ce.cls → vx_W p l e R s m args below meth c H1 locs1 (cells + 1) (slots + 6) Q (F0 m pc ls rest) q9) (k : u.1 = 0 → ∀ (H1 : Heap) (locs1 : List Loc), va_P (dC, dI) vwCl (wC ad cI cJ u.2.2.1 u.2.2.2.1 u.2.2.2.2.1 u.2.2.2.2.2.1 u.2.2.2.2.2.2.1 u.2.2.2.2.2.2.2.1 u.2.2.2.2.2.2.2.2 Gf Gt Gx Gd Gm Ek Er Ea Ex Em Eb Et Ss Sm Wg Wr Md) H1 → va_S A0 s.heap H1 locs1 → W p l e R s m args below meth c H1 locs1 (cells + 1) (slots + 6) Q (F0 m (pc + 3) ls (.int u.2.1 :: rest))) : W p l e R s m args below meth c H locs cells slots Q (F0 m pc ls (.int a2 :: .int a1 :: .int a0 :: .ref (ad 0) :: rest)) := by
  subst hu
  exact vx_calli (vx_runV (As := [.int a0, .int a1, .int a2]) (rest := rest) ⟨hx, hb, hml, hown, hts⟩ (c_X5_putMade l hst dC dI cI cJ ad hi H.size Bc Bl Pk Pr Pl Pc Pm Gf Gt Gx Gd Gm Ek Er Ea Ex Em Eb Et Ss Sm Wg Wr Md a0 a1 a2 hs) (kV 3 hts hlk mI_X5_putMade mN_RX5 mY_X5_putMade mV_X5_putMade rfl rfl (by decide +kernel) hR) ⟨fun a U g mk q => ⟨q.1, q.2.1, q.2.2.1, va_K.moved (u := U) (U := U.calling g mk a) (Vm.Alike.refl U.vm) q.2.2.2.1, q.2.2.2.2.call⟩, va_recv hK hP (ci := 7) (q0 := 0) rfl rfl, fun U hU hW => ⟨rfl, by rw [hU], by rw [hU]; exact hP, va_K.moved hW.alike hK, hC.here hS hU hW hA⟩⟩ rfl rfl hz rfl (lv_room hw) hd hf) hS (fun q _ h => hA q h) (fun q h => hA q h) (fun q _ h => hA q h) (fun E ce q9 u t H1 locs1 ht hvm hw9 hB hz1 hk1 hS1 h1 h2 h3 => kx hB.1 hw9 H1 locs1 (by rw [← ht]; exact hB.2) hS1 ce q9 h1 h2 h3) (fun r u t H1 locs1 ht hvm hw9 hB hz1 hk1 hS1 => by
    obtain ⟨e1, rfl⟩ := hw9
    exact k e1 H1 locs1 (by rw [← ht]; exact hB) hS1)

def f_X5_set (a0 : Int32) (a1 : Int32) (a2 : Int64) (a3 : Int32) (Bc : Nat → Int64) (Bl : Nat → Int32) (Pk : Nat → Int32) (Pr : Nat → Int32) (Pl : Nat → Int32) (Pc : Nat → Int64) (Pm : Int32) (Gd : Int32) (Wg : Nat → Int64) (Wr : Nat → Int64) (Md : Nat → Int64) : Nat × Int32 × (Nat → Int64) × (Nat → Int32) × (Nat → Int32) × (Nat → Int32) × (Nat → Int32) × (Nat → Int64) × Int32 × (Nat → Int64) × (Nat → Int64) := (let u1 := f_X5_checkKind a0 (4 : Int32); (if u1 = 0 then (if a0 = (4 : Int32) then (if (f_X5_within a2 (-1 : Int64) (999 : Int64)) = 0 then (1, 0, Bc, Bl, Pk, Pr, Pl, Pc, Pm, Wr, Md) else (let u14 := f_X5_checkRegister a1.toInt64; (if u14 = 0 then (let u17 := f_X5_makeGiven a0 a2 Wg Wr Md; (let u19 := f_X5_putMade a0 a1 a3 Bc Bl Pk Pr Pl Pc Pm Gd u17; (if u19.1 = 0 then (if a0 = (3 : Int32) then (0, u19.2.1, u19.2.2.1, u19.2.2.2.1, u19.2.2.2.2.1, u19.2.2.2.2.2.1, u19.2.2.2.2.2.2.1, u19.2.2.2.2.2.2.2.1, u19.2.2.2.2.2.2.2.2, (vp_updL Wr (0 : Int32).toNatClampNeg (0 : Int64)), u17) else (0, u19.2.1, u19.2.2.1, u19.2.2.2.1, u19.2.2.2.2.1, u19.2.2.2.2.2.1, u19.2.2.2.2.2.2.1, u19.2.2.2.2.2.2.2.1, u19.2.2.2.2.2.2.2.2, Wr, u17)) else (u19.1, 0, u19.2.2.1, u19.2.2.2.1, u19.2.2.2.2.1, u19.2.2.2.2.2.1, u19.2.2.2.2.2.2.1, u19.2.2.2.2.2.2.2.1, u19.2.2.2.2.2.2.2.2, Wr, u17)))) else (u14, 0, Bc, Bl, Pk, Pr, Pl, Pc, Pm, Wr, Md)))) else (let u4 := f_X5_checkRegister a1.toInt64; (if u4 = 0 then (let u7 := f_X5_makeGiven a0 a2 Wg Wr Md; (let u9 := f_X5_putMade a0 a1 a3 Bc Bl Pk Pr Pl Pc Pm Gd u7; (if u9.1 = 0 then (if a0 = (3 : Int32) then (0, u9.2.1, u9.2.2.1, u9.2.2.2.1, u9.2.2.2.2.1, u9.2.2.2.2.2.1, u9.2.2.2.2.2.2.1, u9.2.2.2.2.2.2.2.1, u9.2.2.2.2.2.2.2.2, (vp_updL Wr (0 : Int32).toNatClampNeg (0 : Int64)), u7) else (0, u9.2.1, u9.2.2.1, u9.2.2.2.1, u9.2.2.2.2.1, u9.2.2.2.2.2.1, u9.2.2.2.2.2.2.1, u9.2.2.2.2.2.2.2.1, u9.2.2.2.2.2.2.2.2, Wr, u7)) else (u9.1, 0, u9.2.2.1, u9.2.2.2.1, u9.2.2.2.2.1, u9.2.2.2.2.2.1, u9.2.2.2.2.2.2.1, u9.2.2.2.2.2.2.2.1, u9.2.2.2.2.2.2.2.2, Wr, u7)))) else (u4, 0, Bc, Bl, Pk, Pr, Pl, Pc, Pm, Wr, Md)))) else (u1, 0, Bc, Bl, Pk, Pr, Pl, Pc, Pm, Wr, Md)))
def S_X5_set (a0 : Int32) (a1 : Int32) (a2 : Int64) (a3 : Int32) (Bc : Nat → Int64) (Bl : Nat → Int32) (Pk : Nat → Int32) (Pr : Nat → Int32) (Pl : Nat → Int32) (Pc : Nat → Int64) (Pm : Int32) (Gd : Int32) (Wg : Nat → Int64) (Wr : Nat → Int64) (Md : Nat → Int64) : Prop := ∀ u1, u1 = f_X5_checkKind a0 (4 : Int32) → (u1 = 0 → ((a0 = (4 : Int32) → (((f_X5_within a2 (-1 : Int64) (999 : Int64)) = 0 → (True)) ∧ (¬ (f_X5_within a2 (-1 : Int64) (999 : Int64)) = 0 → (∀ u14, u14 = f_X5_checkRegister a1.toInt64 → (u14 = 0 → ((S_X5_makeGiven a0 a2 Wg Wr Md) ∧ (∀ u17, u17 = f_X5_makeGiven a0 a2 Wg Wr Md → ((S_X5_putMade a0 a1 a3 Bc Bl Pk Pr Pl Pc Pm Gd u17) ∧ (∀ u19, u19 = f_X5_putMade a0 a1 a3 Bc Bl Pk Pr Pl Pc Pm Gd u17 → (u19.1 = 0 → ((a0 = (3 : Int32) → ((vp_in (0 : Int32) 21) ∧ (True))) ∧ (¬ a0 = (3 : Int32) → (True))))))))))))) ∧ (¬ a0 = (4 : Int32) → (∀ u4, u4 = f_X5_checkRegister a1.toInt64 → (u4 = 0 → ((S_X5_makeGiven a0 a2 Wg Wr Md) ∧ (∀ u7, u7 = f_X5_makeGiven a0 a2 Wg Wr Md → ((S_X5_putMade a0 a1 a3 Bc Bl Pk Pr Pl Pc Pm Gd u7) ∧ (∀ u9, u9 = f_X5_putMade a0 a1 a3 Bc Bl Pk Pr Pl Pc Pm Gd u7 → (u9.1 = 0 → ((a0 = (3 : Int32) → ((vp_in (0 : Int32) 21) ∧ (True))) ∧ (¬ a0 = (3 : Int32) → (True)))))))))))))
set_option maxHeartbeats 4000000 in
set_option maxRecDepth 100000 in
theorem c_X5_set (l : Launch) (hst : l.stackTraces = false) (dC : Nat → ClassId) (dI : Nat → Nat → Nat) (cI cJ : ClassId) (ad : Nat → Nat) (hi : fI 23 ad) (sz : Nat) (Bc : Nat → Int64) (Bl : Nat → Int32) (Pk : Nat → Int32) (Pr : Nat → Int32) (Pl : Nat → Int32) (Pc : Nat → Int64) (Pm : Int32) (Gf : Nat → Int32) (Gt : Nat → Int32) (Gx : Nat → Int32) (Gd : Int32) (Gm : Int32) (Ek : Nat → Int32) (Er : Nat → Int32) (Ea : Nat → Int32) (Ex : Nat → Int32) (Em : Int32) (Eb : Int32) (Et : Int32) (Ss : Nat → Int32) (Sm : Int32) (Wg : Nat → Int64) (Wr : Nat → Int64) (Md : Nat → Int64) (a0 : Int32) (a1 : Int32) (a2 : Int64) (a3 : Int32) (hs : S_X5_set a0 a1 a2 a3 Bc Bl Pk Pr Pl Pc Pm Gd Wg Wr Md) : vx_Met l yX5_set (mW yX5_set cX5_set 7 (some .int)) { frames := 7, cells := 3, slots := 18, locals := 116 } (va_Pc [.ref (ad 0), .int a0, .int a1, .long a2, .int a3] (fun U => U.heap.size = sz ∧ va_P (dC, dI) vwCl (wC ad cI cJ Bc Bl Pk Pr Pl Pc Pm Gf Gt Gx Gd Gm Ek Er Ea Ex Em Eb Et Ss Sm Wg Wr Md) U.heap ∧ va_K (dC, dI) vwCl [(cI, .int), (cJ, .long)] U ∧ cxt (fA 23 ad sz) U U.heap)) (va_Qi (fun (r : Int32) (_ : Unit) => (f_X5_set a0 a1 a2 a3 Bc Bl Pk Pr Pl Pc Pm Gd Wg Wr Md).1 = 0 ∧ r = (f_X5_set a0 a1 a2 a3 Bc Bl Pk Pr Pl Pc Pm Gd Wg Wr Md).2.1) (fun _ t => va_P (dC, dI) vwCl (wC ad cI cJ ((f_X5_set a0 a1 a2 a3 Bc Bl Pk Pr Pl Pc Pm Gd Wg Wr Md).2.2.1) ((f_X5_set a0 a1 a2 a3 Bc Bl Pk Pr Pl Pc Pm Gd Wg Wr Md).2.2.2.1) ((f_X5_set a0 a1 a2 a3 Bc Bl Pk Pr Pl Pc Pm Gd Wg Wr Md).2.2.2.2.1) ((f_X5_set a0 a1 a2 a3 Bc Bl Pk Pr Pl Pc Pm Gd Wg Wr Md).2.2.2.2.2.1) ((f_X5_set a0 a1 a2 a3 Bc Bl Pk Pr Pl Pc Pm Gd Wg Wr Md).2.2.2.2.2.2.1) ((f_X5_set a0 a1 a2 a3 Bc Bl Pk Pr Pl Pc Pm Gd Wg Wr Md).2.2.2.2.2.2.2.1) ((f_X5_set a0 a1 a2 a3 Bc Bl Pk Pr Pl Pc Pm Gd Wg Wr Md).2.2.2.2.2.2.2.2.1) Gf Gt Gx Gd Gm Ek Er Ea Ex Em Eb Et Ss Sm Wg ((f_X5_set a0 a1 a2 a3 Bc Bl Pk Pr Pl Pc Pm Gd Wg Wr Md).2.2.2.2.2.2.2.2.2.1) ((f_X5_set a0 a1 a2 a3 Bc Bl Pk Pr Pl Pc Pm Gd Wg Wr Md).2.2.2.2.2.2.2.2.2.2)) t.heap) (fA 23 ad sz)) (vx_X (fun _ : Unit => ¬ (f_X5_set a0 a1 a2 a3 Bc Bl Pk Pr Pl Pc Pm Gd Wg Wr Md).1 = 0) (fun E _ t => E = exN ((f_X5_set a0 a1 a2 a3 Bc Bl Pk Pr Pl Pc Pm Gd Wg Wr Md).1) ∧ va_P (dC, dI) vwCl (wC ad cI cJ ((f_X5_set a0 a1 a2 a3 Bc Bl Pk Pr Pl Pc Pm Gd Wg Wr Md).2.2.1) ((f_X5_set a0 a1 a2 a3 Bc Bl Pk Pr Pl Pc Pm Gd Wg Wr Md).2.2.2.1) ((f_X5_set a0 a1 a2 a3 Bc Bl Pk Pr Pl Pc Pm Gd Wg Wr Md).2.2.2.2.1) ((f_X5_set a0 a1 a2 a3 Bc Bl Pk Pr Pl Pc Pm Gd Wg Wr Md).2.2.2.2.2.1) ((f_X5_set a0 a1 a2 a3 Bc Bl Pk Pr Pl Pc Pm Gd Wg Wr Md).2.2.2.2.2.2.1) ((f_X5_set a0 a1 a2 a3 Bc Bl Pk Pr Pl Pc Pm Gd Wg Wr Md).2.2.2.2.2.2.2.1) ((f_X5_set a0 a1 a2 a3 Bc Bl Pk Pr Pl Pc Pm Gd Wg Wr Md).2.2.2.2.2.2.2.2.1) Gf Gt Gx Gd Gm Ek Er Ea Ex Em Eb Et Ss Sm Wg ((f_X5_set a0 a1 a2 a3 Bc Bl Pk Pr Pl Pc Pm Gd Wg Wr Md).2.2.2.2.2.2.2.2.2.1) ((f_X5_set a0 a1 a2 a3 Bc Bl Pk Pr Pl Pc Pm Gd Wg Wr Md).2.2.2.2.2.2.2.2.2.2)) t.heap) (fA 23 ad sz)) 3 18 (fA 23 ad sz) := by
  refine vx_ofW (cc := cX5_set) (maxL := 7) (ret := (some .int)) (by decide) rfl ?_
  intro p e s m args below meth c s₁ B hml ht hv
  obtain ⟨rfl, hsz, hP, hK, hC⟩ := hv
  have hx := B.exec
  have hb := B.bytes
  have hr := B.returns
  have hts := mW_hts (atoms_spec (ws := (mW yX5_set cX5_set 7 (some .int))) B.pre)
  have hown : s.vm.findClass RX5 = some m.cls := findClass_of_methodNamed B.named
  have hlocks := B.notSynchronized
  subst hsz
  have hA : ∀ (n : Nat) (q : Nat), s.heap.size ≤ n → n ≤ q → fA 23 ad s.heap.size q := fun n q h1 h2 => Or.inr (Nat.le_trans h1 h2)
  have hS : va_S (fA 23 ad s.heap.size) s.heap s.heap [] := va_S.rf
  have hA : ∀ q, s.heap.size ≤ q → (fA 23 ad s.heap.size) q := fun q h => Or.inr h
  unfold S_X5_set at hs
  have hl := lv_entry ([.ref (ad 0), .int a0, .int a1, .long a2, .int a3]) (n := 7) (Nat.le_of_ble_eq_true rfl)
  rw [lg_entry_eq]
  generalize (lg_sl ([.ref (ad 0), .int a0, .int a1, .long a2, .int a3]) ++ List.replicate (7 - (lg_sl ([.ref (ad 0), .int a0, .int a1, .long a2, .int a3])).length) Slot.unset).toArray = ls at hl ⊢
  have hl : lv_has ls 7 [(0, .ref (ad 0)), (1, .int a0), (2, .int a1), (3, .long a2), (5, .int a3)] := hl
  refine W_gen (fun Q9 hQ9 => ?_)
  refine lv_iload_n hx hb dX5_set_0 rfl (lv_at hl 1 rfl) ?_
  refine lv_iconst (v := 4) hx hb dX5_set_1 (by decide) ?_
  obtain ⟨u1, hu1⟩ : ∃ z, z = f_X5_checkKind a0 (4 : Int32) := ⟨_, rfl⟩
  have hs := hs u1 hu1
  refine q_X5_checkKind hst hx hb hml hown hts mM_RX5_77 ⟨Nat.le_of_ble_eq_true rfl, Nat.le_of_ble_eq_true rfl⟩ ⟨Nat.le_of_ble_eq_true rfl, Nat.le_of_ble_eq_true rfl⟩ hl.1 (Nat.le_of_ble_eq_true rfl) hS dX5_set_2 hA hC a0 (4 : Int32) u1 hu1 (fun hE c2 H locs hk hz hS ce q9 h71 h72 h73 => ?_) (fun c2 locs hS => ?_)
  · have hP := hP.kept (H1 := H) (fun k z hkz => hk z.1 (hP k z hkz).lt)
    rw [hQ9]
    have hf : f_X5_set a0 a1 a2 a3 Bc Bl Pk Pr Pl Pc Pm Gd Wg Wr Md = (u1, 0, Bc, Bl, Pk, Pr, Pl, Pc, Pm, Wr, Md) := by simp only [f_X5_set, ← hu1, if_neg c2]
    refine vx_widen (k := 3) (n := 18) (Nat.le_of_ble_eq_true rfl) (Nat.le_of_ble_eq_true rfl) (vx_out (fun x hx => (ht x hx).elim) hlocks h71 h72 h73 (fun t hh hv => ⟨(), by rw [hf]; exact c2, ⟨by rw [hf]; exact hE, by rw [hf]; show va_P (dC, dI) vwCl _ t.heap; rw [hh]; exact hP⟩, hS.F hh⟩) hS.2.2 (Nat.le_of_ble_eq_true rfl) (Nat.le_of_ble_eq_true rfl))
  · have hs := hs c2
    refine lv_iload_n hx hb dX5_set_5 rfl (lv_at hl 1 rfl) ?_
    refine lv_iconst (v := 4) hx hb dX5_set_6 (by decide) ?_
    refine lv_icmp_ne (tgt := 33) hx hb dX5_set_7 (by decide) (fun c3 => ?_) (fun c3 => ?_)
    · have hs := hs.2 c3
      refine lv_iload_n hx hb dX5_set_33 rfl (lv_at hl 2 rfl) ?_
      refine lv_i2l hx hb dX5_set_34 rfl ?_
      obtain ⟨u4, hu4⟩ : ∃ z, z = f_X5_checkRegister a1.toInt64 := ⟨_, rfl⟩
      have hs := hs u4 hu4
      refine q_X5_checkRegister hst hx hb hml hown hts mM_RX5_87 ⟨Nat.le_of_ble_eq_true rfl, Nat.le_of_ble_eq_true rfl⟩ ⟨Nat.le_of_ble_eq_true rfl, Nat.le_of_ble_eq_true rfl⟩ hl.1 (Nat.le_of_ble_eq_true rfl) hS dX5_set_35 hA hC a1.toInt64 u4 hu4 (fun hE c5 H locs hk hz hS ce q9 h71 h72 h73 => ?_) (fun c5 locs hS => ?_)
      · have hP := hP.kept (H1 := H) (fun k z hkz => hk z.1 (hP k z hkz).lt)
        rw [hQ9]
        have hf : f_X5_set a0 a1 a2 a3 Bc Bl Pk Pr Pl Pc Pm Gd Wg Wr Md = (u4, 0, Bc, Bl, Pk, Pr, Pl, Pc, Pm, Wr, Md) := by simp only [f_X5_set, ← hu1, if_pos c2, if_neg c3, ← hu4, if_neg c5]
        refine vx_widen (k := 3) (n := 18) (Nat.le_of_ble_eq_true rfl) (Nat.le_of_ble_eq_true rfl) (vx_out (fun x hx => (ht x hx).elim) hlocks h71 h72 h73 (fun t hh hv => ⟨(), by rw [hf]; exact c5, ⟨by rw [hf]; exact hE, by rw [hf]; show va_P (dC, dI) vwCl _ t.heap; rw [hh]; exact hP⟩, hS.F hh⟩) hS.2.2 (Nat.le_of_ble_eq_true rfl) (Nat.le_of_ble_eq_true rfl))
      · have hs := hs c5
        refine lv_aload_n hx hb dX5_set_38 rfl (lv_at hl 0 rfl) ?_
        refine lv_iload_n hx hb dX5_set_39 rfl (lv_at hl 1 rfl) ?_
        refine lv_lload_n hx hb dX5_set_40 rfl (lv_at hl 3 rfl) ?_
        obtain ⟨h6, hs⟩ := hs
        obtain ⟨u7, hu7⟩ : ∃ z, z = f_X5_makeGiven a0 a2 Wg Wr Md := ⟨_, rfl⟩
        have hs := hs u7 hu7
        refine q_X5_makeGiven hx hb hml hown hts mM_RX5_91 ⟨Nat.le_of_ble_eq_true rfl, Nat.le_of_ble_eq_true rfl⟩ ⟨Nat.le_of_ble_eq_true rfl, Nat.le_of_ble_eq_true rfl⟩ hl.1 (Nat.le_of_ble_eq_true rfl) hS dX5_set_41 (fun _ h9 => fA_mono hS.1 h9) hi hK hP a0 a2 h6 u7 hu7 (fun H locs hP hS => ?_)
        refine lv_aload_n hx hb dX5_set_44 rfl (lv_at hl 0 rfl) ?_
        refine lv_iload_n hx hb dX5_set_45 rfl (lv_at hl 1 rfl) ?_
        refine lv_iload_n hx hb dX5_set_46 rfl (lv_at hl 2 rfl) ?_
        refine lv_iload hx hb dX5_set_47 (lv_at hl 4 rfl) ?_
        obtain ⟨h8, hs⟩ := hs
        obtain ⟨u9, hu9⟩ : ∃ z, z = f_X5_putMade a0 a1 a3 Bc Bl Pk Pr Pl Pc Pm Gd u7 := ⟨_, rfl⟩
        have hs := hs u9 hu9
        refine q_X5_putMade hst hx hb hml hown hts mM_RX5_95 ⟨Nat.le_of_ble_eq_true rfl, Nat.le_of_ble_eq_true rfl⟩ ⟨Nat.le_of_ble_eq_true rfl, Nat.le_of_ble_eq_true rfl⟩ hl.1 (Nat.le_of_ble_eq_true rfl) hS dX5_set_49 (fun _ h9 => fA_mono hS.1 h9) hi hK hP hC a0 a1 a3 h8 u9 hu9 (fun hE c10 H locs hP hS ce q9 h71 h72 h73 => ?_) (fun c10 H locs hP hS => ?_)
        · rw [hQ9]
          have hf : f_X5_set a0 a1 a2 a3 Bc Bl Pk Pr Pl Pc Pm Gd Wg Wr Md = (u9.1, 0, u9.2.2.1, u9.2.2.2.1, u9.2.2.2.2.1, u9.2.2.2.2.2.1, u9.2.2.2.2.2.2.1, u9.2.2.2.2.2.2.2.1, u9.2.2.2.2.2.2.2.2, Wr, u7) := by simp only [f_X5_set, ← hu1, if_pos c2, if_neg c3, ← hu4, if_pos c5, ← hu7, ← hu9, if_neg c10]
          refine vx_widen (k := 3) (n := 18) (Nat.le_of_ble_eq_true rfl) (Nat.le_of_ble_eq_true rfl) (vx_out (fun x hx => (ht x hx).elim) hlocks h71 h72 h73 (fun t hh hv => ⟨(), by rw [hf]; exact c10, ⟨by rw [hf]; exact hE, by rw [hf]; show va_P (dC, dI) vwCl _ t.heap; rw [hh]; exact hP⟩, hS.F hh⟩) hS.2.2 (Nat.le_of_ble_eq_true rfl) (Nat.le_of_ble_eq_true rfl))
        · have hs := hs c10
          refine lv_istore (lv' := [(6, .int u9.2.1), (0, .ref (ad 0)), (1, .int a0), (2, .int a1), (3, .long a2), (5, .int a3)]) hx hb dX5_set_52 hl (by decide) rfl (fun ls hl => ?_)
          refine lv_iload_n hx hb dX5_set_54 rfl (lv_at hl 2 rfl) ?_
          refine lv_iconst (v := 3) hx hb dX5_set_55 (by decide) ?_
          refine lv_icmp_ne (tgt := 66) hx hb dX5_set_56 (by decide) (fun c11 => ?_) (fun c11 => ?_)
          · have hs := hs.2 c11
            refine lv_iload hx hb dX5_set_66 (lv_at hl 0 rfl) ?_
            rw [hQ9]
            have hf : f_X5_set a0 a1 a2 a3 Bc Bl Pk Pr Pl Pc Pm Gd Wg Wr Md = (0, u9.2.1, u9.2.2.1, u9.2.2.2.1, u9.2.2.2.2.1, u9.2.2.2.2.2.1, u9.2.2.2.2.2.2.1, u9.2.2.2.2.2.2.2.1, u9.2.2.2.2.2.2.2.2, Wr, u7) := by simp only [f_X5_set, ← hu1, if_pos c2, if_neg c3, ← hu4, if_pos c5, ← hu7, ← hu9, if_pos c10, if_neg c11]
            refine vx_ret ?_
            exact W.iret (v := u9.2.1) hx hb hr (fun t ht hW => ⟨⟨u9.2.1, (), rfl, ⟨by rw [hf], by rw [hf]⟩, by rw [hf]; show va_P (dC, dI) vwCl _ t.heap; rw [ht]; exact hP⟩, hS.F ht⟩) hS.2.2 dX5_set_68
          · have hs := hs.1 c11
            refine lv_aload_n hx hb dX5_set_59 rfl (lv_at hl 1 rfl) ?_
            refine va_get (D := (dC, dI)) (ci := 7) (v := .ref (ad 21)) (C := RX5) (T := TX5) (N := 8) hx hb hts iW_X5 hown hK hP 0 rfl rfl 6 (by decide) (hts _ mF_RX5_48) (fun _ h9 => h9) rfl dX5_set_60 ?_
            refine lv_iconst (v := 0) hx hb dX5_set_63 (by decide) ?_
            refine lv_lconst (v := 0) hx hb dX5_set_64 (by decide) ?_
            obtain ⟨h12, hs⟩ := hs
            refine va_last hx hb hK hP (fA_D hi rfl) hS 21 1 rfl rfl h12 dX5_set_65 (fun H locs hP _ hS => ?_)
            have hP : va_P (dC, dI) vwCl (wC ad cI cJ u9.2.2.1 u9.2.2.2.1 u9.2.2.2.2.1 u9.2.2.2.2.2.1 u9.2.2.2.2.2.2.1 u9.2.2.2.2.2.2.2.1 u9.2.2.2.2.2.2.2.2 Gf Gt Gx Gd Gm Ek Er Ea Ex Em Eb Et Ss Sm Wg (vp_updL Wr (0 : Int32).toNatClampNeg (0 : Int64)) u7) H := hP
            refine lv_iload hx hb dX5_set_66 (lv_at hl 0 rfl) ?_
            rw [hQ9]
            have hf : f_X5_set a0 a1 a2 a3 Bc Bl Pk Pr Pl Pc Pm Gd Wg Wr Md = (0, u9.2.1, u9.2.2.1, u9.2.2.2.1, u9.2.2.2.2.1, u9.2.2.2.2.2.1, u9.2.2.2.2.2.2.1, u9.2.2.2.2.2.2.2.1, u9.2.2.2.2.2.2.2.2, (vp_updL Wr (0 : Int32).toNatClampNeg (0 : Int64)), u7) := by simp only [f_X5_set, ← hu1, if_pos c2, if_neg c3, ← hu4, if_pos c5, ← hu7, ← hu9, if_pos c10, if_pos c11]
            refine vx_ret ?_
            exact W.iret (v := u9.2.1) hx hb hr (fun t ht hW => ⟨⟨u9.2.1, (), rfl, ⟨by rw [hf], by rw [hf]⟩, by rw [hf]; show va_P (dC, dI) vwCl _ t.heap; rw [ht]; exact hP⟩, hS.F ht⟩) hS.2.2 dX5_set_68
    · have hs := hs.1 c3
      refine lv_lload_n hx hb dX5_set_10 rfl (lv_at hl 3 rfl) ?_
      refine lv_ldc2 hx hb hown (hts _ mK_RX5_81) dX5_set_11 ?_
      refine lv_ldc2 hx hb hown (hts _ mK_RX5_83) dX5_set_14 ?_
      refine q_X5_within hx hb hml hown hts mM_RX5_71 ⟨Nat.le_of_ble_eq_true rfl, Nat.le_of_ble_eq_true rfl⟩ ⟨Nat.le_of_ble_eq_true rfl, Nat.le_of_ble_eq_true rfl⟩ hl.1 (Nat.le_of_ble_eq_true rfl) hS dX5_set_17 hA a2 (-1 : Int64) (999 : Int64) (fun locs hS => ?_)
      refine lv_if_ne (tgt := 33) hx hb dX5_set_20 (by decide) (fun c13 => ?_) (fun c13 => ?_)
      · have hs := hs.2 c13
        refine lv_iload_n hx hb dX5_set_33 rfl (lv_at hl 2 rfl) ?_
        refine lv_i2l hx hb dX5_set_34 rfl ?_
        obtain ⟨u14, hu14⟩ : ∃ z, z = f_X5_checkRegister a1.toInt64 := ⟨_, rfl⟩
        have hs := hs u14 hu14
        refine q_X5_checkRegister hst hx hb hml hown hts mM_RX5_87 ⟨Nat.le_of_ble_eq_true rfl, Nat.le_of_ble_eq_true rfl⟩ ⟨Nat.le_of_ble_eq_true rfl, Nat.le_of_ble_eq_true rfl⟩ hl.1 (Nat.le_of_ble_eq_true rfl) hS dX5_set_35 hA hC a1.toInt64 u14 hu14 (fun hE c15 H locs hk hz hS ce q9 h71 h72 h73 => ?_) (fun c15 locs hS => ?_)
        · have hP := hP.kept (H1 := H) (fun k z hkz => hk z.1 (hP k z hkz).lt)
          rw [hQ9]
          have hf : f_X5_set a0 a1 a2 a3 Bc Bl Pk Pr Pl Pc Pm Gd Wg Wr Md = (u14, 0, Bc, Bl, Pk, Pr, Pl, Pc, Pm, Wr, Md) := by simp only [f_X5_set, ← hu1, if_pos c2, if_pos c3, if_neg c13, ← hu14, if_neg c15]
          refine vx_widen (k := 3) (n := 18) (Nat.le_of_ble_eq_true rfl) (Nat.le_of_ble_eq_true rfl) (vx_out (fun x hx => (ht x hx).elim) hlocks h71 h72 h73 (fun t hh hv => ⟨(), by rw [hf]; exact c15, ⟨by rw [hf]; exact hE, by rw [hf]; show va_P (dC, dI) vwCl _ t.heap; rw [hh]; exact hP⟩, hS.F hh⟩) hS.2.2 (Nat.le_of_ble_eq_true rfl) (Nat.le_of_ble_eq_true rfl))
        · have hs := hs c15
          refine lv_aload_n hx hb dX5_set_38 rfl (lv_at hl 0 rfl) ?_
          refine lv_iload_n hx hb dX5_set_39 rfl (lv_at hl 1 rfl) ?_
          refine lv_lload_n hx hb dX5_set_40 rfl (lv_at hl 3 rfl) ?_
          obtain ⟨h16, hs⟩ := hs
          obtain ⟨u17, hu17⟩ : ∃ z, z = f_X5_makeGiven a0 a2 Wg Wr Md := ⟨_, rfl⟩
          have hs := hs u17 hu17
          refine q_X5_makeGiven hx hb hml hown hts mM_RX5_91 ⟨Nat.le_of_ble_eq_true rfl, Nat.le_of_ble_eq_true rfl⟩ ⟨Nat.le_of_ble_eq_true rfl, Nat.le_of_ble_eq_true rfl⟩ hl.1 (Nat.le_of_ble_eq_true rfl) hS dX5_set_41 (fun _ h9 => fA_mono hS.1 h9) hi hK hP a0 a2 h16 u17 hu17 (fun H locs hP hS => ?_)
          refine lv_aload_n hx hb dX5_set_44 rfl (lv_at hl 0 rfl) ?_
          refine lv_iload_n hx hb dX5_set_45 rfl (lv_at hl 1 rfl) ?_
          refine lv_iload_n hx hb dX5_set_46 rfl (lv_at hl 2 rfl) ?_
          refine lv_iload hx hb dX5_set_47 (lv_at hl 4 rfl) ?_
          obtain ⟨h18, hs⟩ := hs
          obtain ⟨u19, hu19⟩ : ∃ z, z = f_X5_putMade a0 a1 a3 Bc Bl Pk Pr Pl Pc Pm Gd u17 := ⟨_, rfl⟩
          have hs := hs u19 hu19
          refine q_X5_putMade hst hx hb hml hown hts mM_RX5_95 ⟨Nat.le_of_ble_eq_true rfl, Nat.le_of_ble_eq_true rfl⟩ ⟨Nat.le_of_ble_eq_true rfl, Nat.le_of_ble_eq_true rfl⟩ hl.1 (Nat.le_of_ble_eq_true rfl) hS dX5_set_49 (fun _ h9 => fA_mono hS.1 h9) hi hK hP hC a0 a1 a3 h18 u19 hu19 (fun hE c20 H locs hP hS ce q9 h71 h72 h73 => ?_) (fun c20 H locs hP hS => ?_)
          · rw [hQ9]
            have hf : f_X5_set a0 a1 a2 a3 Bc Bl Pk Pr Pl Pc Pm Gd Wg Wr Md = (u19.1, 0, u19.2.2.1, u19.2.2.2.1, u19.2.2.2.2.1, u19.2.2.2.2.2.1, u19.2.2.2.2.2.2.1, u19.2.2.2.2.2.2.2.1, u19.2.2.2.2.2.2.2.2, Wr, u17) := by simp only [f_X5_set, ← hu1, if_pos c2, if_pos c3, if_neg c13, ← hu14, if_pos c15, ← hu17, ← hu19, if_neg c20]
            refine vx_widen (k := 3) (n := 18) (Nat.le_of_ble_eq_true rfl) (Nat.le_of_ble_eq_true rfl) (vx_out (fun x hx => (ht x hx).elim) hlocks h71 h72 h73 (fun t hh hv => ⟨(), by rw [hf]; exact c20, ⟨by rw [hf]; exact hE, by rw [hf]; show va_P (dC, dI) vwCl _ t.heap; rw [hh]; exact hP⟩, hS.F hh⟩) hS.2.2 (Nat.le_of_ble_eq_true rfl) (Nat.le_of_ble_eq_true rfl))
          · have hs := hs c20
            refine lv_istore (lv' := [(6, .int u19.2.1), (0, .ref (ad 0)), (1, .int a0), (2, .int a1), (3, .long a2), (5, .int a3)]) hx hb dX5_set_52 hl (by decide) rfl (fun ls hl => ?_)
            refine lv_iload_n hx hb dX5_set_54 rfl (lv_at hl 2 rfl) ?_
            refine lv_iconst (v := 3) hx hb dX5_set_55 (by decide) ?_
            refine lv_icmp_ne (tgt := 66) hx hb dX5_set_56 (by decide) (fun c21 => ?_) (fun c21 => ?_)
            · have hs := hs.2 c21
              refine lv_iload hx hb dX5_set_66 (lv_at hl 0 rfl) ?_
              rw [hQ9]
              have hf : f_X5_set a0 a1 a2 a3 Bc Bl Pk Pr Pl Pc Pm Gd Wg Wr Md = (0, u19.2.1, u19.2.2.1, u19.2.2.2.1, u19.2.2.2.2.1, u19.2.2.2.2.2.1, u19.2.2.2.2.2.2.1, u19.2.2.2.2.2.2.2.1, u19.2.2.2.2.2.2.2.2, Wr, u17) := by simp only [f_X5_set, ← hu1, if_pos c2, if_pos c3, if_neg c13, ← hu14, if_pos c15, ← hu17, ← hu19, if_pos c20, if_neg c21]
              refine vx_ret ?_
              exact W.iret (v := u19.2.1) hx hb hr (fun t ht hW => ⟨⟨u19.2.1, (), rfl, ⟨by rw [hf], by rw [hf]⟩, by rw [hf]; show va_P (dC, dI) vwCl _ t.heap; rw [ht]; exact hP⟩, hS.F ht⟩) hS.2.2 dX5_set_68
            · have hs := hs.1 c21
              refine lv_aload_n hx hb dX5_set_59 rfl (lv_at hl 1 rfl) ?_
              refine va_get (D := (dC, dI)) (ci := 7) (v := .ref (ad 21)) (C := RX5) (T := TX5) (N := 8) hx hb hts iW_X5 hown hK hP 0 rfl rfl 6 (by decide) (hts _ mF_RX5_48) (fun _ h9 => h9) rfl dX5_set_60 ?_
              refine lv_iconst (v := 0) hx hb dX5_set_63 (by decide) ?_
              refine lv_lconst (v := 0) hx hb dX5_set_64 (by decide) ?_
              obtain ⟨h22, hs⟩ := hs
              refine va_last hx hb hK hP (fA_D hi rfl) hS 21 1 rfl rfl h22 dX5_set_65 (fun H locs hP _ hS => ?_)
              have hP : va_P (dC, dI) vwCl (wC ad cI cJ u19.2.2.1 u19.2.2.2.1 u19.2.2.2.2.1 u19.2.2.2.2.2.1 u19.2.2.2.2.2.2.1 u19.2.2.2.2.2.2.2.1 u19.2.2.2.2.2.2.2.2 Gf Gt Gx Gd Gm Ek Er Ea Ex Em Eb Et Ss Sm Wg (vp_updL Wr (0 : Int32).toNatClampNeg (0 : Int64)) u17) H := hP
              refine lv_iload hx hb dX5_set_66 (lv_at hl 0 rfl) ?_
              rw [hQ9]
              have hf : f_X5_set a0 a1 a2 a3 Bc Bl Pk Pr Pl Pc Pm Gd Wg Wr Md = (0, u19.2.1, u19.2.2.1, u19.2.2.2.1, u19.2.2.2.2.1, u19.2.2.2.2.2.1, u19.2.2.2.2.2.2.1, u19.2.2.2.2.2.2.2.1, u19.2.2.2.2.2.2.2.2, (vp_updL Wr (0 : Int32).toNatClampNeg (0 : Int64)), u17) := by simp only [f_X5_set, ← hu1, if_pos c2, if_pos c3, if_neg c13, ← hu14, if_pos c15, ← hu17, ← hu19, if_pos c20, if_pos c21]
              refine vx_ret ?_
              exact W.iret (v := u19.2.1) hx hb hr (fun t ht hW => ⟨⟨u19.2.1, (), rfl, ⟨by rw [hf], by rw [hf]⟩, by rw [hf]; show va_P (dC, dI) vwCl _ t.heap; rw [ht]; exact hP⟩, hS.F ht⟩) hS.2.2 dX5_set_68
      · have hs := hs.1 c13
        rw [hQ9]
        have hf : f_X5_set a0 a1 a2 a3 Bc Bl Pk Pr Pl Pc Pm Gd Wg Wr Md = (1, 0, Bc, Bl, Pk, Pr, Pl, Pc, Pm, Wr, Md) := by simp only [f_X5_set, ← hu1, if_pos c2, if_pos c3, if_pos c13]
        obtain ⟨sa23, hsa23⟩ := hC.str 4 _ rfl
        refine vx_throwS (mc := 3) (ms := 18) (ik := 62) (ic := 66) (is := 85) (own := RX5) (cls := x_IAE) (text := "no BOX") (names := x_nam) hx hb hst hown (by decide) nm_x (hts _ mC_RX5_62) (hts _ mN_IllegalArgumentException) hsa23 (xw_IAE hts hC) xg_IAE hC.1 hC.2.1 hS (by rw [hml]; exact hl.1) dX5_set_23 dX5_set_26 dX5_set_27 dX5_set_29 dX5_set_32 (fun x hx => (ht x hx).elim) (Nat.le_of_ble_eq_true rfl) (Nat.le_of_ble_eq_true rfl) (Nat.le_of_ble_eq_true rfl) (Nat.le_of_ble_eq_true rfl) hlocks (fun t hv hz hk => ⟨(), by rw [hf]; exact (by decide : ¬ (1 : Nat) = 0), ⟨by rw [hf]; rfl, by rw [hf]; exact hP.kept (fun k z hkz => hk z.1 (hP k z hkz).lt)⟩, ⟨Nat.le_trans hS.1 hz, fun q h1 h2 => (hk q (Nat.lt_of_lt_of_le h1 hS.1)).trans (hS.2.1 q h1 h2)⟩⟩) hS.2.2 (Nat.le_of_ble_eq_true rfl) (Nat.le_of_ble_eq_true rfl)
theorem q_X5_set {p : Program} {l : Launch} {e : Env} {R : Room} {s : State} {m : MethodId} {args : Array Value} {below : List Frame} {meth : Method} {c : Code} {H : Heap} {locs : List Loc} {cells slots : Nat} {Q : State → Prop} {pc : Nat} {ls : Array Slot} {rest : List Value} {cc : ByteArray} {nL idx : Nat} {own : String} {A0 : Nat → Prop} {dC : Nat → ClassId} {dI : Nat → Nat → Nat} {cI cJ : ClassId} {ad : Nat → Nat} {Bc : Nat → Int64} {Bl : Nat → Int32} {Pk : Nat → Int32} {Pr : Nat → Int32} {Pl : Nat → Int32} {Pc : Nat → Int64} {Pm : Int32} {Gf : Nat → Int32} {Gt : Nat → Int32} {Gx : Nat → Int32} {Gd : Int32} {Gm : Int32} {Ek : Nat → Int32} {Er : Nat → Int32} {Ea : Nat → Int32} {Ex : Nat → Int32} {Em : Int32} {Eb : Int32} {Et : Int32} {Ss : Nat → Int32} {Sm : Int32} {Wg : Nat → Int64} {Wr : Nat → Int64} {Md : Nat → Int64} (hst : l.stackTraces = false) (hx : p.tables.exec = Jvm.exec) (hb : c.code = cc) (hml : c.maxLocals = nL) (hown : s.vm.findClass own = some m.cls) (hts : ∀ w ∈ bigW, w.before args s = true) (hlk : Cond.methodLink own idx yX5_set ∈ bigW) (hR : 8 ≤ R.frames ∧ 142 ≤ R.locals) (hf : cells + 3 ≤ R.cells ∧ slots + 18 ≤ R.slots) (hz : ls.size = nL) (hw : (rest.map fun v => v.category).sum ≤ 8) (hS : va_S A0 s.heap H locs) (hd : decode cc pc = .ok (.invokevirtual idx, 3)) (hA : ∀ q, fA 23 ad H.size q → A0 q) (hi : fI 23 ad) (hK : va_K (dC, dI) vwCl [(cI, .int), (cJ, .long)] s) (hP : va_P (dC, dI) vwCl (wC ad cI cJ Bc Bl Pk Pr Pl Pc Pm Gf Gt Gx Gd Gm Ek Er Ea Ex Em Eb Et Ss Sm Wg Wr Md) H) (hC : cxt A0 s s.heap) (a0 : Int32) (a1 : Int32) (a2 : Int64) (a3 : Int32) (hs : S_X5_set a0 a1 a2 a3 Bc Bl Pk Pr Pl Pc Pm Gd Wg Wr Md)  (u : Nat × Int32 × (Nat → Int64) × (Nat → Int32) × (Nat → Int32) × (Nat → Int32) × (Nat → Int32) × (Nat → Int64) × Int32 × (Nat → Int64) × (Nat → Int64)) (hu : u = f_X5_set a0 a1 a2 a3 Bc Bl Pk Pr Pl Pc Pm Gd Wg Wr Md) (kx : ∀ {E : String} (hE : E = exN u.1) (ho : ¬ u.1 = 0) (H1 : Heap) (locs1 : List Loc), va_P (dC, dI) vwCl (wC ad cI cJ u.2.2.1 u.2.2.2.1 u.2.2.2.2.1 u.2.2.2.2.2.1 u.2.2.2.2.2.2.1 u.2.2.2.2.2.2.2.1 u.2.2.2.2.2.2.2.2.1 Gf Gt Gx Gd Gm Ek Er Ea Ex Em Eb Et Ss Sm Wg u.2.2.2.2.2.2.2.2.2.1 u.2.2.2.2.2.2.2.2.2.2) H1 → va_S A0 s.heap H1 locs1 → ∀ (ce : Cell) (q9 : Addr), H1[q9]? = some ce → ce.vm = .none → s.vm.findClass E = some ce.cls → vx_W p l e R s m args below meth c H1 locs1 (cells + 3) (slots + 18) Q (F0 m pc ls rest) q9) (k : u.1 = 0 → ∀ (H1 : Heap) (locs1 : List Loc), va_P (dC, dI) vwCl (wC ad cI cJ u.2.2.1 u.2.2.2.1 u.2.2.2.2.1 u.2.2.2.2.2.1 u.2.2.2.2.2.2.1 u.2.2.2.2.2.2.2.1 u.2.2.2.2.2.2.2.2.1 Gf Gt Gx Gd Gm Ek Er Ea Ex Em Eb Et Ss Sm Wg u.2.2.2.2.2.2.2.2.2.1 u.2.2.2.2.2.2.2.2.2.2) H1 → va_S A0 s.heap H1 locs1 → W p l e R s m args below meth c H1 locs1 (cells + 3) (slots + 18) Q (F0 m (pc + 3) ls (.int u.2.1 :: rest))) : W p l e R s m args below meth c H locs cells slots Q (F0 m pc ls (.int a3 :: .long a2 :: .int a1 :: .int a0 :: .ref (ad 0) :: rest)) := by
  subst hu
  exact vx_calli (vx_runV (As := [.int a0, .int a1, .long a2, .int a3]) (rest := rest) ⟨hx, hb, hml, hown, hts⟩ (c_X5_set l hst dC dI cI cJ ad hi H.size Bc Bl Pk Pr Pl Pc Pm Gf Gt Gx Gd Gm Ek Er Ea Ex Em Eb Et Ss Sm Wg Wr Md a0 a1 a2 a3 hs) (kV 4 hts hlk mI_X5_set mN_RX5 mY_X5_set mV_X5_set rfl rfl (by decide +kernel) hR) ⟨fun a U g mk q => ⟨q.1, q.2.1, q.2.2.1, va_K.moved (u := U) (U := U.calling g mk a) (Vm.Alike.refl U.vm) q.2.2.2.1, q.2.2.2.2.call⟩, va_recv hK hP (ci := 7) (q0 := 0) rfl rfl, fun U hU hW => ⟨rfl, by rw [hU], by rw [hU]; exact hP, va_K.moved hW.alike hK, hC.here hS hU hW hA⟩⟩ rfl rfl hz rfl (lv_room hw) hd hf) hS (fun q _ h => hA q h) (fun q h => hA q h) (fun q _ h => hA q h) (fun E ce q9 u t H1 locs1 ht hvm hw9 hB hz1 hk1 hS1 h1 h2 h3 => kx hB.1 hw9 H1 locs1 (by rw [← ht]; exact hB.2) hS1 ce q9 h1 h2 h3) (fun r u t H1 locs1 ht hvm hw9 hB hz1 hk1 hS1 => by
    obtain ⟨e1, rfl⟩ := hw9
    exact k e1 H1 locs1 (by rw [← ht]; exact hB) hS1)
theorem qf_X5_set {p : Program} {l : Launch} {e : Env} {R : Room} {s : State} {m : MethodId} {args : Array Value} {below : List Frame} {meth : Method} {c : Code} {H : Heap} {locs : List Loc} {cells slots : Nat} {Q : State → Prop} {pc : Nat} {ls : Array Slot} {rest : List Value} {cc : ByteArray} {nL idx : Nat} {own : String} {A0 : Nat → Prop} {dC : Nat → ClassId} {dI : Nat → Nat → Nat} {cI cJ : ClassId} {ad : Nat → Nat} {Bc : Nat → Int64} {Bl : Nat → Int32} {Pk : Nat → Int32} {Pr : Nat → Int32} {Pl : Nat → Int32} {Pc : Nat → Int64} {Pm : Int32} {Gf : Nat → Int32} {Gt : Nat → Int32} {Gx : Nat → Int32} {Gd : Int32} {Gm : Int32} {Ek : Nat → Int32} {Er : Nat → Int32} {Ea : Nat → Int32} {Ex : Nat → Int32} {Em : Int32} {Eb : Int32} {Et : Int32} {Ss : Nat → Int32} {Sm : Int32} {Wg : Nat → Int64} {Wr : Nat → Int64} {Md : Nat → Int64} (hst : l.stackTraces = false) (hx : p.tables.exec = Jvm.exec) (hb : c.code = cc) (hml : c.maxLocals = nL) (hown : s.vm.findClass own = some m.cls) (hts : ∀ w ∈ bigW, w.before args s = true) (hlk : Cond.methodLink own idx yX5_set ∈ bigW) (hR : 8 ≤ R.frames ∧ 142 ≤ R.locals) (hf : cells + 3 ≤ R.cells ∧ slots + 18 ≤ R.slots) (hz : ls.size = nL) (hw : (rest.map fun v => v.category).sum ≤ 8) (hS : va_S A0 s.heap H locs) (hd : decode cc pc = .ok (.invokevirtual idx, 3)) (hA : ∀ q, fA 23 ad H.size q → A0 q) (hi : fI 23 ad) (hK : va_K (dC, dI) vwCl [(cI, .int), (cJ, .long)] s) (hP : va_P (dC, dI) vwCl (wC ad cI cJ Bc Bl Pk Pr Pl Pc Pm Gf Gt Gx Gd Gm Ek Er Ea Ex Em Eb Et Ss Sm Wg Wr Md) H) (hC : cxt A0 s s.heap) (a0 : Int32) (a1 : Int32) (a2 : Int64) (a3 : Int32) (hs : S_X5_set a0 a1 a2 a3 Bc Bl Pk Pr Pl Pc Pm Gd Wg Wr Md)  (u : Nat × Int32 × (Nat → Int64) × (Nat → Int32) × (Nat → Int32) × (Nat → Int32) × (Nat → Int32) × (Nat → Int64) × Int32 × (Nat → Int64) × (Nat → Int64)) (hu : u = f_X5_set a0 a1 a2 a3 Bc Bl Pk Pr Pl Pc Pm Gd Wg Wr Md) (kx : ∀ {E : String} (hE : E = exN u.1) (ho : ¬ u.1 = 0) (H1 : Heap) (locs1 : List Loc), va_P (dC, dI) vwCl (wC ad cI cJ u.2.2.1 u.2.2.2.1 u.2.2.2.2.1 u.2.2.2.2.2.1 u.2.2.2.2.2.2.1 u.2.2.2.2.2.2.2.1 u.2.2.2.2.2.2.2.2.1 Gf Gt Gx Gd Gm Ek Er Ea Ex Em Eb Et Ss Sm Wg u.2.2.2.2.2.2.2.2.2.1 u.2.2.2.2.2.2.2.2.2.2) H1 → va_S A0 s.heap H1 locs1 → (∀ q : Nat, q < H.size → ¬ fA 23 ad H.size q → H1[q]? = H[q]?) → H.size ≤ H1.size → ∀ (ce : Cell) (q9 : Addr), H1[q9]? = some ce → ce.vm = .none → s.vm.findClass E = some ce.cls → vx_W p l e R s m args below meth c H1 locs1 (cells + 3) (slots + 18) Q (F0 m pc ls rest) q9) (k : u.1 = 0 → ∀ (H1 : Heap) (locs1 : List Loc), va_P (dC, dI) vwCl (wC ad cI cJ u.2.2.1 u.2.2.2.1 u.2.2.2.2.1 u.2.2.2.2.2.1 u.2.2.2.2.2.2.1 u.2.2.2.2.2.2.2.1 u.2.2.2.2.2.2.2.2.1 Gf Gt Gx Gd Gm Ek Er Ea Ex Em Eb Et Ss Sm Wg u.2.2.2.2.2.2.2.2.2.1 u.2.2.2.2.2.2.2.2.2.2) H1 → va_S A0 s.heap H1 locs1 → (∀ q : Nat, q < H.size → ¬ fA 23 ad H.size q → H1[q]? = H[q]?) → H.size ≤ H1.size → W p l e R s m args below meth c H1 locs1 (cells + 3) (slots + 18) Q (F0 m (pc + 3) ls (.int u.2.1 :: rest))) : W p l e R s m args below meth c H locs cells slots Q (F0 m pc ls (.int a3 :: .long a2 :: .int a1 :: .int a0 :: .ref (ad 0) :: rest)) := by
  subst hu
  exact vx_calli (vx_runV (As := [.int a0, .int a1, .long a2, .int a3]) (rest := rest) ⟨hx, hb, hml, hown, hts⟩ (c_X5_set l hst dC dI cI cJ ad hi H.size Bc Bl Pk Pr Pl Pc Pm Gf Gt Gx Gd Gm Ek Er Ea Ex Em Eb Et Ss Sm Wg Wr Md a0 a1 a2 a3 hs) (kV 4 hts hlk mI_X5_set mN_RX5 mY_X5_set mV_X5_set rfl rfl (by decide +kernel) hR) ⟨fun a U g mk q => ⟨q.1, q.2.1, q.2.2.1, va_K.moved (u := U) (U := U.calling g mk a) (Vm.Alike.refl U.vm) q.2.2.2.1, q.2.2.2.2.call⟩, va_recv hK hP (ci := 7) (q0 := 0) rfl rfl, fun U hU hW => ⟨rfl, by rw [hU], by rw [hU]; exact hP, va_K.moved hW.alike hK, hC.here hS hU hW hA⟩⟩ rfl rfl hz rfl (lv_room hw) hd hf) hS (fun q _ h => hA q h) (fun q h => hA q h) (fun q _ h => hA q h) (fun E ce q9 u t H1 locs1 ht hvm hw9 hB hz1 hk1 hS1 h1 h2 h3 => kx hB.1 hw9 H1 locs1 (by rw [← ht]; exact hB.2) hS1 hk1 hz1 ce q9 h1 h2 h3) (fun r u t H1 locs1 ht hvm hw9 hB hz1 hk1 hS1 => by
    obtain ⟨e1, rfl⟩ := hw9
    exact k e1 H1 locs1 (by rw [← ht]; exact hB) hS1 hk1 hz1)

def f_X5_get (a0 : Int32) (a1 : Int32) (Bc : Nat → Int64) : Nat × Int64 := (let u1 := f_X5_checkKind a0 (4 : Int32); (if u1 = 0 then (let u3 := f_X5_checkRegister a1.toInt64; (if u3 = 0 then (0, (Bc (f_X0_home a0 a1).toNatClampNeg)) else (u3, 0))) else (u1, 0)))
def S_X5_get (a0 : Int32) (a1 : Int32) (Bc : Nat → Int64) : Prop := ∀ u1, u1 = f_X5_checkKind a0 (4 : Int32) → (u1 = 0 → (∀ u3, u3 = f_X5_checkRegister a1.toInt64 → (u3 = 0 → ((S_X0_home a0 a1) ∧ ((vp_in (f_X0_home a0 a1) 928) ∧ (True))))))
set_option maxHeartbeats 4000000 in
set_option maxRecDepth 100000 in
theorem c_X5_get (l : Launch) (hst : l.stackTraces = false) (dC : Nat → ClassId) (dI : Nat → Nat → Nat) (cI cJ : ClassId) (ad : Nat → Nat) (hi : fI 23 ad) (sz : Nat) (Bc : Nat → Int64) (Bl : Nat → Int32) (Pk : Nat → Int32) (Pr : Nat → Int32) (Pl : Nat → Int32) (Pc : Nat → Int64) (Pm : Int32) (Gf : Nat → Int32) (Gt : Nat → Int32) (Gx : Nat → Int32) (Gd : Int32) (Gm : Int32) (Ek : Nat → Int32) (Er : Nat → Int32) (Ea : Nat → Int32) (Ex : Nat → Int32) (Em : Int32) (Eb : Int32) (Et : Int32) (Ss : Nat → Int32) (Sm : Int32) (Wg : Nat → Int64) (Wr : Nat → Int64) (Md : Nat → Int64) (a0 : Int32) (a1 : Int32) (hs : S_X5_get a0 a1 Bc) : vx_Met l yX5_get (mW yX5_get cX5_get 3 (some .long)) { frames := 7, cells := 2, slots := 12, locals := 113 } (va_Pc [.ref (ad 0), .int a0, .int a1] (fun U => U.heap.size = sz ∧ va_P (dC, dI) vwCl (wC ad cI cJ Bc Bl Pk Pr Pl Pc Pm Gf Gt Gx Gd Gm Ek Er Ea Ex Em Eb Et Ss Sm Wg Wr Md) U.heap ∧ va_K (dC, dI) vwCl [(cI, .int), (cJ, .long)] U ∧ cxt (fA 23 ad sz) U U.heap)) (va_Ql (fun (r : Int64) (_ : Unit) => (f_X5_get a0 a1 Bc).1 = 0 ∧ r = (f_X5_get a0 a1 Bc).2) (fun _ t => va_P (dC, dI) vwCl (wC ad cI cJ Bc Bl Pk Pr Pl Pc Pm Gf Gt Gx Gd Gm Ek Er Ea Ex Em Eb Et Ss Sm Wg Wr Md) t.heap) (fA 23 ad sz)) (vx_X (fun _ : Unit => ¬ (f_X5_get a0 a1 Bc).1 = 0) (fun E _ t => E = exN ((f_X5_get a0 a1 Bc).1) ∧ va_P (dC, dI) vwCl (wC ad cI cJ Bc Bl Pk Pr Pl Pc Pm Gf Gt Gx Gd Gm Ek Er Ea Ex Em Eb Et Ss Sm Wg Wr Md) t.heap) (fA 23 ad sz)) 2 12 (fA 23 ad sz) := by
  refine vx_ofW (cc := cX5_get) (maxL := 3) (ret := (some .long)) (by decide) rfl ?_
  intro p e s m args below meth c s₁ B hml ht hv
  obtain ⟨rfl, hsz, hP, hK, hC⟩ := hv
  have hx := B.exec
  have hb := B.bytes
  have hr := B.returns
  have hts := mW_hts (atoms_spec (ws := (mW yX5_get cX5_get 3 (some .long))) B.pre)
  have hown : s.vm.findClass RX5 = some m.cls := findClass_of_methodNamed B.named
  have hlocks := B.notSynchronized
  subst hsz
  have hA : ∀ (n : Nat) (q : Nat), s.heap.size ≤ n → n ≤ q → fA 23 ad s.heap.size q := fun n q h1 h2 => Or.inr (Nat.le_trans h1 h2)
  have hS : va_S (fA 23 ad s.heap.size) s.heap s.heap [] := va_S.rf
  have hA : ∀ q, s.heap.size ≤ q → (fA 23 ad s.heap.size) q := fun q h => Or.inr h
  unfold S_X5_get at hs
  have hl := lv_entry ([.ref (ad 0), .int a0, .int a1]) (n := 3) (Nat.le_of_ble_eq_true rfl)
  rw [lg_entry_eq]
  generalize (lg_sl ([.ref (ad 0), .int a0, .int a1]) ++ List.replicate (3 - (lg_sl ([.ref (ad 0), .int a0, .int a1])).length) Slot.unset).toArray = ls at hl ⊢
  have hl : lv_has ls 3 [(0, .ref (ad 0)), (1, .int a0), (2, .int a1)] := hl
  refine W_gen (fun Q9 hQ9 => ?_)
  refine lv_iload_n hx hb dX5_get_0 rfl (lv_at hl 1 rfl) ?_
  refine lv_iconst (v := 4) hx hb dX5_get_1 (by decide) ?_
  obtain ⟨u1, hu1⟩ : ∃ z, z = f_X5_checkKind a0 (4 : Int32) := ⟨_, rfl⟩
  have hs := hs u1 hu1
  refine q_X5_checkKind hst hx hb hml hown hts mM_RX5_77 ⟨Nat.le_of_ble_eq_true rfl, Nat.le_of_ble_eq_true rfl⟩ ⟨Nat.le_of_ble_eq_true rfl, Nat.le_of_ble_eq_true rfl⟩ hl.1 (Nat.le_of_ble_eq_true rfl) hS dX5_get_2 hA hC a0 (4 : Int32) u1 hu1 (fun hE c2 H locs hk hz hS ce q9 h71 h72 h73 => ?_) (fun c2 locs hS => ?_)
  · have hP := hP.kept (H1 := H) (fun k z hkz => hk z.1 (hP k z hkz).lt)
    rw [hQ9]
    have hf : f_X5_get a0 a1 Bc = (u1, 0) := by simp only [f_X5_get, ← hu1, if_neg c2]
    refine vx_widen (k := 2) (n := 12) (Nat.le_of_ble_eq_true rfl) (Nat.le_of_ble_eq_true rfl) (vx_out (fun x hx => (ht x hx).elim) hlocks h71 h72 h73 (fun t hh hv => ⟨(), by rw [hf]; exact c2, ⟨by rw [hf]; exact hE, by show va_P (dC, dI) vwCl _ t.heap; rw [hh]; exact hP⟩, hS.F hh⟩) hS.2.2 (Nat.le_of_ble_eq_true rfl) (Nat.le_of_ble_eq_true rfl))
  · have hs := hs c2
    refine lv_iload_n hx hb dX5_get_5 rfl (lv_at hl 2 rfl) ?_
    refine lv_i2l hx hb dX5_get_6 rfl ?_
    obtain ⟨u3, hu3⟩ : ∃ z, z = f_X5_checkRegister a1.toInt64 := ⟨_, rfl⟩
    have hs := hs u3 hu3
    refine q_X5_checkRegister hst hx hb hml hown hts mM_RX5_87 ⟨Nat.le_of_ble_eq_true rfl, Nat.le_of_ble_eq_true rfl⟩ ⟨Nat.le_of_ble_eq_true rfl, Nat.le_of_ble_eq_true rfl⟩ hl.1 (Nat.le_of_ble_eq_true rfl) hS dX5_get_7 hA hC a1.toInt64 u3 hu3 (fun hE c4 H locs hk hz hS ce q9 h71 h72 h73 => ?_) (fun c4 locs hS => ?_)
    · have hP := hP.kept (H1 := H) (fun k z hkz => hk z.1 (hP k z hkz).lt)
      rw [hQ9]
      have hf : f_X5_get a0 a1 Bc = (u3, 0) := by simp only [f_X5_get, ← hu1, if_pos c2, ← hu3, if_neg c4]
      refine vx_widen (k := 2) (n := 12) (Nat.le_of_ble_eq_true rfl) (Nat.le_of_ble_eq_true rfl) (vx_out (fun x hx => (ht x hx).elim) hlocks h71 h72 h73 (fun t hh hv => ⟨(), by rw [hf]; exact c4, ⟨by rw [hf]; exact hE, by show va_P (dC, dI) vwCl _ t.heap; rw [hh]; exact hP⟩, hS.F hh⟩) hS.2.2 (Nat.le_of_ble_eq_true rfl) (Nat.le_of_ble_eq_true rfl))
    · have hs := hs c4
      refine lv_aload_n hx hb dX5_get_10 rfl (lv_at hl 0 rfl) ?_
      refine va_get (D := (dC, dI)) (ci := 7) (v := .ref (ad 1)) (C := RX5) (T := TX5) (N := 8) hx hb hts iW_X5 hown hK hP 0 rfl rfl 0 (by decide) (hts _ mF_RX5_10) (fun _ h9 => h9) rfl dX5_get_11 ?_
      refine va_get (D := (dC, dI)) (ci := 2) (v := .ref (ad 2)) (C := RX0) (T := TX0) (N := 2) hx hb hts iW_X0 hown hK hP 1 rfl rfl 0 (by decide) (hts _ mF_RX5_99) (fun _ h9 => h9) rfl dX5_get_14 ?_
      refine lv_iload_n hx hb dX5_get_17 rfl (lv_at hl 1 rfl) ?_
      refine lv_iload_n hx hb dX5_get_18 rfl (lv_at hl 2 rfl) ?_
      obtain ⟨h5, hs⟩ := hs
      refine q_X0_home hx hb hml hown hts mM_RX5_102 ⟨Nat.le_of_ble_eq_true rfl, Nat.le_of_ble_eq_true rfl⟩ ⟨Nat.le_of_ble_eq_true rfl, Nat.le_of_ble_eq_true rfl⟩ hl.1 (Nat.le_of_ble_eq_true rfl) hS dX5_get_19 hA hC a0 a1 h5 (fun locs hS => ?_)
      obtain ⟨h6, hs⟩ := hs
      refine va_lald hx hb hK hP 2 1 rfl rfl h6 dX5_get_22 ?_
      rw [hQ9]
      have hf : f_X5_get a0 a1 Bc = (0, (Bc (f_X0_home a0 a1).toNatClampNeg)) := by simp only [f_X5_get, ← hu1, if_pos c2, ← hu3, if_pos c4]
      refine vx_ret ?_
      exact W.lret (v := (Bc (f_X0_home a0 a1).toNatClampNeg)) hx hb hr (fun t ht hW => ⟨⟨(Bc (f_X0_home a0 a1).toNatClampNeg), (), rfl, ⟨by rw [hf], by rw [hf]⟩, by show va_P (dC, dI) vwCl _ t.heap; rw [ht]; exact hP⟩, hS.F ht⟩) hS.2.2 dX5_get_23
theorem q_X5_get {p : Program} {l : Launch} {e : Env} {R : Room} {s : State} {m : MethodId} {args : Array Value} {below : List Frame} {meth : Method} {c : Code} {H : Heap} {locs : List Loc} {cells slots : Nat} {Q : State → Prop} {pc : Nat} {ls : Array Slot} {rest : List Value} {cc : ByteArray} {nL idx : Nat} {own : String} {A0 : Nat → Prop} {dC : Nat → ClassId} {dI : Nat → Nat → Nat} {cI cJ : ClassId} {ad : Nat → Nat} {Bc : Nat → Int64} {Bl : Nat → Int32} {Pk : Nat → Int32} {Pr : Nat → Int32} {Pl : Nat → Int32} {Pc : Nat → Int64} {Pm : Int32} {Gf : Nat → Int32} {Gt : Nat → Int32} {Gx : Nat → Int32} {Gd : Int32} {Gm : Int32} {Ek : Nat → Int32} {Er : Nat → Int32} {Ea : Nat → Int32} {Ex : Nat → Int32} {Em : Int32} {Eb : Int32} {Et : Int32} {Ss : Nat → Int32} {Sm : Int32} {Wg : Nat → Int64} {Wr : Nat → Int64} {Md : Nat → Int64} (hst : l.stackTraces = false) (hx : p.tables.exec = Jvm.exec) (hb : c.code = cc) (hml : c.maxLocals = nL) (hown : s.vm.findClass own = some m.cls) (hts : ∀ w ∈ bigW, w.before args s = true) (hlk : Cond.methodLink own idx yX5_get ∈ bigW) (hR : 8 ≤ R.frames ∧ 135 ≤ R.locals) (hf : cells + 2 ≤ R.cells ∧ slots + 12 ≤ R.slots) (hz : ls.size = nL) (hw : (rest.map fun v => v.category).sum ≤ 8) (hS : va_S A0 s.heap H locs) (hd : decode cc pc = .ok (.invokevirtual idx, 3)) (hA : ∀ q, fA 23 ad H.size q → A0 q) (hi : fI 23 ad) (hK : va_K (dC, dI) vwCl [(cI, .int), (cJ, .long)] s) (hP : va_P (dC, dI) vwCl (wC ad cI cJ Bc Bl Pk Pr Pl Pc Pm Gf Gt Gx Gd Gm Ek Er Ea Ex Em Eb Et Ss Sm Wg Wr Md) H) (hC : cxt A0 s s.heap) (a0 : Int32) (a1 : Int32) (hs : S_X5_get a0 a1 Bc)  (u : Nat × Int64) (hu : u = f_X5_get a0 a1 Bc) (kx : ∀ {E : String} (hE : E = exN u.1) (ho : ¬ u.1 = 0) (H1 : Heap) (locs1 : List Loc), va_P (dC, dI) vwCl (wC ad cI cJ Bc Bl Pk Pr Pl Pc Pm Gf Gt Gx Gd Gm Ek Er Ea Ex Em Eb Et Ss Sm Wg Wr Md) H1 → va_S A0 s.heap H1 locs1 → ∀ (ce : Cell) (q9 : Addr), H1[q9]? = some ce → ce.vm = .none → s.vm.findClass E = some ce.cls → vx_W p l e R s m args below meth c H1 locs1 (cells + 2) (slots + 12) Q (F0 m pc ls rest) q9) (k : u.1 = 0 → ∀ (H1 : Heap) (locs1 : List Loc), va_P (dC, dI) vwCl (wC ad cI cJ Bc Bl Pk Pr Pl Pc Pm Gf Gt Gx Gd Gm Ek Er Ea Ex Em Eb Et Ss Sm Wg Wr Md) H1 → va_S A0 s.heap H1 locs1 → W p l e R s m args below meth c H1 locs1 (cells + 2) (slots + 12) Q (F0 m (pc + 3) ls (.long u.2 :: rest))) : W p l e R s m args below meth c H locs cells slots Q (F0 m pc ls (.int a1 :: .int a0 :: .ref (ad 0) :: rest)) := by
  subst hu
  exact vx_calll (vx_runV (As := [.int a0, .int a1]) (rest := rest) ⟨hx, hb, hml, hown, hts⟩ (c_X5_get l hst dC dI cI cJ ad hi H.size Bc Bl Pk Pr Pl Pc Pm Gf Gt Gx Gd Gm Ek Er Ea Ex Em Eb Et Ss Sm Wg Wr Md a0 a1 hs) (kV 2 hts hlk mI_X5_get mN_RX5 mY_X5_get mV_X5_get rfl rfl (by decide +kernel) hR) ⟨fun a U g mk q => ⟨q.1, q.2.1, q.2.2.1, va_K.moved (u := U) (U := U.calling g mk a) (Vm.Alike.refl U.vm) q.2.2.2.1, q.2.2.2.2.call⟩, va_recv hK hP (ci := 7) (q0 := 0) rfl rfl, fun U hU hW => ⟨rfl, by rw [hU], by rw [hU]; exact hP, va_K.moved hW.alike hK, hC.here hS hU hW hA⟩⟩ rfl rfl hz rfl (lv_room hw) hd hf) hS (fun q _ h => hA q h) (fun q h => hA q h) (fun q _ h => hA q h) (fun E ce q9 u t H1 locs1 ht hvm hw9 hB hz1 hk1 hS1 h1 h2 h3 => kx hB.1 hw9 H1 locs1 (by rw [← ht]; exact hB.2) hS1 ce q9 h1 h2 h3) (fun r u t H1 locs1 ht hvm hw9 hB hz1 hk1 hS1 => by
    obtain ⟨e1, rfl⟩ := hw9
    exact k e1 H1 locs1 (by rw [← ht]; exact hB) hS1)
theorem qf_X5_get {p : Program} {l : Launch} {e : Env} {R : Room} {s : State} {m : MethodId} {args : Array Value} {below : List Frame} {meth : Method} {c : Code} {H : Heap} {locs : List Loc} {cells slots : Nat} {Q : State → Prop} {pc : Nat} {ls : Array Slot} {rest : List Value} {cc : ByteArray} {nL idx : Nat} {own : String} {A0 : Nat → Prop} {dC : Nat → ClassId} {dI : Nat → Nat → Nat} {cI cJ : ClassId} {ad : Nat → Nat} {Bc : Nat → Int64} {Bl : Nat → Int32} {Pk : Nat → Int32} {Pr : Nat → Int32} {Pl : Nat → Int32} {Pc : Nat → Int64} {Pm : Int32} {Gf : Nat → Int32} {Gt : Nat → Int32} {Gx : Nat → Int32} {Gd : Int32} {Gm : Int32} {Ek : Nat → Int32} {Er : Nat → Int32} {Ea : Nat → Int32} {Ex : Nat → Int32} {Em : Int32} {Eb : Int32} {Et : Int32} {Ss : Nat → Int32} {Sm : Int32} {Wg : Nat → Int64} {Wr : Nat → Int64} {Md : Nat → Int64} (hst : l.stackTraces = false) (hx : p.tables.exec = Jvm.exec) (hb : c.code = cc) (hml : c.maxLocals = nL) (hown : s.vm.findClass own = some m.cls) (hts : ∀ w ∈ bigW, w.before args s = true) (hlk : Cond.methodLink own idx yX5_get ∈ bigW) (hR : 8 ≤ R.frames ∧ 135 ≤ R.locals) (hf : cells + 2 ≤ R.cells ∧ slots + 12 ≤ R.slots) (hz : ls.size = nL) (hw : (rest.map fun v => v.category).sum ≤ 8) (hS : va_S A0 s.heap H locs) (hd : decode cc pc = .ok (.invokevirtual idx, 3)) (hA : ∀ q, fA 23 ad H.size q → A0 q) (hi : fI 23 ad) (hK : va_K (dC, dI) vwCl [(cI, .int), (cJ, .long)] s) (hP : va_P (dC, dI) vwCl (wC ad cI cJ Bc Bl Pk Pr Pl Pc Pm Gf Gt Gx Gd Gm Ek Er Ea Ex Em Eb Et Ss Sm Wg Wr Md) H) (hC : cxt A0 s s.heap) (a0 : Int32) (a1 : Int32) (hs : S_X5_get a0 a1 Bc)  (u : Nat × Int64) (hu : u = f_X5_get a0 a1 Bc) (kx : ∀ {E : String} (hE : E = exN u.1) (ho : ¬ u.1 = 0) (H1 : Heap) (locs1 : List Loc), va_P (dC, dI) vwCl (wC ad cI cJ Bc Bl Pk Pr Pl Pc Pm Gf Gt Gx Gd Gm Ek Er Ea Ex Em Eb Et Ss Sm Wg Wr Md) H1 → va_S A0 s.heap H1 locs1 → (∀ q : Nat, q < H.size → ¬ fA 23 ad H.size q → H1[q]? = H[q]?) → H.size ≤ H1.size → ∀ (ce : Cell) (q9 : Addr), H1[q9]? = some ce → ce.vm = .none → s.vm.findClass E = some ce.cls → vx_W p l e R s m args below meth c H1 locs1 (cells + 2) (slots + 12) Q (F0 m pc ls rest) q9) (k : u.1 = 0 → ∀ (H1 : Heap) (locs1 : List Loc), va_P (dC, dI) vwCl (wC ad cI cJ Bc Bl Pk Pr Pl Pc Pm Gf Gt Gx Gd Gm Ek Er Ea Ex Em Eb Et Ss Sm Wg Wr Md) H1 → va_S A0 s.heap H1 locs1 → (∀ q : Nat, q < H.size → ¬ fA 23 ad H.size q → H1[q]? = H[q]?) → H.size ≤ H1.size → W p l e R s m args below meth c H1 locs1 (cells + 2) (slots + 12) Q (F0 m (pc + 3) ls (.long u.2 :: rest))) : W p l e R s m args below meth c H locs cells slots Q (F0 m pc ls (.int a1 :: .int a0 :: .ref (ad 0) :: rest)) := by
  subst hu
  exact vx_calll (vx_runV (As := [.int a0, .int a1]) (rest := rest) ⟨hx, hb, hml, hown, hts⟩ (c_X5_get l hst dC dI cI cJ ad hi H.size Bc Bl Pk Pr Pl Pc Pm Gf Gt Gx Gd Gm Ek Er Ea Ex Em Eb Et Ss Sm Wg Wr Md a0 a1 hs) (kV 2 hts hlk mI_X5_get mN_RX5 mY_X5_get mV_X5_get rfl rfl (by decide +kernel) hR) ⟨fun a U g mk q => ⟨q.1, q.2.1, q.2.2.1, va_K.moved (u := U) (U := U.calling g mk a) (Vm.Alike.refl U.vm) q.2.2.2.1, q.2.2.2.2.call⟩, va_recv hK hP (ci := 7) (q0 := 0) rfl rfl, fun U hU hW => ⟨rfl, by rw [hU], by rw [hU]; exact hP, va_K.moved hW.alike hK, hC.here hS hU hW hA⟩⟩ rfl rfl hz rfl (lv_room hw) hd hf) hS (fun q _ h => hA q h) (fun q h => hA q h) (fun q _ h => hA q h) (fun E ce q9 u t H1 locs1 ht hvm hw9 hB hz1 hk1 hS1 h1 h2 h3 => kx hB.1 hw9 H1 locs1 (by rw [← ht]; exact hB.2) hS1 hk1 hz1 ce q9 h1 h2 h3) (fun r u t H1 locs1 ht hvm hw9 hB hz1 hk1 hS1 => by
    obtain ⟨e1, rfl⟩ := hw9
    exact k e1 H1 locs1 (by rw [← ht]; exact hB) hS1 hk1 hz1)

def f_X5_part (a0 : Int32) (a1 : Int32) (Bc : Nat → Int64) : Nat × Int64 := (let u1 := f_X5_checkRegister a0.toInt64; (if u1 = 0 then (if (f_X5_within a1.toInt64 (0 : Int64) (4 : Int64)) = 0 then (2, 0) else (0, (Bc ((f_X0_home (2 : Int32) a0) + a1).toNatClampNeg))) else (u1, 0)))
def S_X5_part (a0 : Int32) (a1 : Int32) (Bc : Nat → Int64) : Prop := ∀ u1, u1 = f_X5_checkRegister a0.toInt64 → (u1 = 0 → (((f_X5_within a1.toInt64 (0 : Int64) (4 : Int64)) = 0 → (True)) ∧ (¬ (f_X5_within a1.toInt64 (0 : Int64) (4 : Int64)) = 0 → ((S_X0_home (2 : Int32) a0) ∧ ((vp_in ((f_X0_home (2 : Int32) a0) + a1) 928) ∧ (True))))))
set_option maxHeartbeats 4000000 in
set_option maxRecDepth 100000 in
theorem c_X5_part (l : Launch) (hst : l.stackTraces = false) (dC : Nat → ClassId) (dI : Nat → Nat → Nat) (cI cJ : ClassId) (ad : Nat → Nat) (hi : fI 23 ad) (sz : Nat) (Bc : Nat → Int64) (Bl : Nat → Int32) (Pk : Nat → Int32) (Pr : Nat → Int32) (Pl : Nat → Int32) (Pc : Nat → Int64) (Pm : Int32) (Gf : Nat → Int32) (Gt : Nat → Int32) (Gx : Nat → Int32) (Gd : Int32) (Gm : Int32) (Ek : Nat → Int32) (Er : Nat → Int32) (Ea : Nat → Int32) (Ex : Nat → Int32) (Em : Int32) (Eb : Int32) (Et : Int32) (Ss : Nat → Int32) (Sm : Int32) (Wg : Nat → Int64) (Wr : Nat → Int64) (Md : Nat → Int64) (a0 : Int32) (a1 : Int32) (hs : S_X5_part a0 a1 Bc) : vx_Met l yX5_part (mW yX5_part cX5_part 3 (some .long)) { frames := 7, cells := 2, slots := 12, locals := 113 } (va_Pc [.ref (ad 0), .int a0, .int a1] (fun U => U.heap.size = sz ∧ va_P (dC, dI) vwCl (wC ad cI cJ Bc Bl Pk Pr Pl Pc Pm Gf Gt Gx Gd Gm Ek Er Ea Ex Em Eb Et Ss Sm Wg Wr Md) U.heap ∧ va_K (dC, dI) vwCl [(cI, .int), (cJ, .long)] U ∧ cxt (fA 23 ad sz) U U.heap)) (va_Ql (fun (r : Int64) (_ : Unit) => (f_X5_part a0 a1 Bc).1 = 0 ∧ r = (f_X5_part a0 a1 Bc).2) (fun _ t => va_P (dC, dI) vwCl (wC ad cI cJ Bc Bl Pk Pr Pl Pc Pm Gf Gt Gx Gd Gm Ek Er Ea Ex Em Eb Et Ss Sm Wg Wr Md) t.heap) (fA 23 ad sz)) (vx_X (fun _ : Unit => ¬ (f_X5_part a0 a1 Bc).1 = 0) (fun E _ t => E = exN ((f_X5_part a0 a1 Bc).1) ∧ va_P (dC, dI) vwCl (wC ad cI cJ Bc Bl Pk Pr Pl Pc Pm Gf Gt Gx Gd Gm Ek Er Ea Ex Em Eb Et Ss Sm Wg Wr Md) t.heap) (fA 23 ad sz)) 2 12 (fA 23 ad sz) := by
  refine vx_ofW (cc := cX5_part) (maxL := 3) (ret := (some .long)) (by decide) rfl ?_
  intro p e s m args below meth c s₁ B hml ht hv
  obtain ⟨rfl, hsz, hP, hK, hC⟩ := hv
  have hx := B.exec
  have hb := B.bytes
  have hr := B.returns
  have hts := mW_hts (atoms_spec (ws := (mW yX5_part cX5_part 3 (some .long))) B.pre)
  have hown : s.vm.findClass RX5 = some m.cls := findClass_of_methodNamed B.named
  have hlocks := B.notSynchronized
  subst hsz
  have hA : ∀ (n : Nat) (q : Nat), s.heap.size ≤ n → n ≤ q → fA 23 ad s.heap.size q := fun n q h1 h2 => Or.inr (Nat.le_trans h1 h2)
  have hS : va_S (fA 23 ad s.heap.size) s.heap s.heap [] := va_S.rf
  have hA : ∀ q, s.heap.size ≤ q → (fA 23 ad s.heap.size) q := fun q h => Or.inr h
  unfold S_X5_part at hs
  have hl := lv_entry ([.ref (ad 0), .int a0, .int a1]) (n := 3) (Nat.le_of_ble_eq_true rfl)
  rw [lg_entry_eq]
  generalize (lg_sl ([.ref (ad 0), .int a0, .int a1]) ++ List.replicate (3 - (lg_sl ([.ref (ad 0), .int a0, .int a1])).length) Slot.unset).toArray = ls at hl ⊢
  have hl : lv_has ls 3 [(0, .ref (ad 0)), (1, .int a0), (2, .int a1)] := hl
  refine W_gen (fun Q9 hQ9 => ?_)
  refine lv_iload_n hx hb dX5_part_0 rfl (lv_at hl 1 rfl) ?_
  refine lv_i2l hx hb dX5_part_1 rfl ?_
  obtain ⟨u1, hu1⟩ : ∃ z, z = f_X5_checkRegister a0.toInt64 := ⟨_, rfl⟩
  have hs := hs u1 hu1
  refine q_X5_checkRegister hst hx hb hml hown hts mM_RX5_87 ⟨Nat.le_of_ble_eq_true rfl, Nat.le_of_ble_eq_true rfl⟩ ⟨Nat.le_of_ble_eq_true rfl, Nat.le_of_ble_eq_true rfl⟩ hl.1 (Nat.le_of_ble_eq_true rfl) hS dX5_part_2 hA hC a0.toInt64 u1 hu1 (fun hE c2 H locs hk hz hS ce q9 h71 h72 h73 => ?_) (fun c2 locs hS => ?_)
  · have hP := hP.kept (H1 := H) (fun k z hkz => hk z.1 (hP k z hkz).lt)
    rw [hQ9]
    have hf : f_X5_part a0 a1 Bc = (u1, 0) := by simp only [f_X5_part, ← hu1, if_neg c2]
    refine vx_widen (k := 2) (n := 12) (Nat.le_of_ble_eq_true rfl) (Nat.le_of_ble_eq_true rfl) (vx_out (fun x hx => (ht x hx).elim) hlocks h71 h72 h73 (fun t hh hv => ⟨(), by rw [hf]; exact c2, ⟨by rw [hf]; exact hE, by show va_P (dC, dI) vwCl _ t.heap; rw [hh]; exact hP⟩, hS.F hh⟩) hS.2.2 (Nat.le_of_ble_eq_true rfl) (Nat.le_of_ble_eq_true rfl))
  · have hs := hs c2
    refine lv_iload_n hx hb dX5_part_5 rfl (lv_at hl 2 rfl) ?_
    refine lv_i2l hx hb dX5_part_6 rfl ?_
    refine lv_lconst (v := 0) hx hb dX5_part_7 (by decide) ?_
    refine lv_ldc2 hx hb hown (hts _ mK_RX5_106) dX5_part_8 ?_
    refine q_X5_within hx hb hml hown hts mM_RX5_71 ⟨Nat.le_of_ble_eq_true rfl, Nat.le_of_ble_eq_true rfl⟩ ⟨Nat.le_of_ble_eq_true rfl, Nat.le_of_ble_eq_true rfl⟩ hl.1 (Nat.le_of_ble_eq_true rfl) hS dX5_part_11 hA a1.toInt64 (0 : Int64) (4 : Int64) (fun locs hS => ?_)
    refine lv_if_ne (tgt := 27) hx hb dX5_part_14 (by decide) (fun c3 => ?_) (fun c3 => ?_)
    · have hs := hs.2 c3
      refine lv_aload_n hx hb dX5_part_27 rfl (lv_at hl 0 rfl) ?_
      refine va_get (D := (dC, dI)) (ci := 7) (v := .ref (ad 1)) (C := RX5) (T := TX5) (N := 8) hx hb hts iW_X5 hown hK hP 0 rfl rfl 0 (by decide) (hts _ mF_RX5_10) (fun _ h9 => h9) rfl dX5_part_28 ?_
      refine va_get (D := (dC, dI)) (ci := 2) (v := .ref (ad 2)) (C := RX0) (T := TX0) (N := 2) hx hb hts iW_X0 hown hK hP 1 rfl rfl 0 (by decide) (hts _ mF_RX5_99) (fun _ h9 => h9) rfl dX5_part_31 ?_
      refine lv_iconst (v := 2) hx hb dX5_part_34 (by decide) ?_
      refine lv_iload_n hx hb dX5_part_35 rfl (lv_at hl 1 rfl) ?_
      obtain ⟨h4, hs⟩ := hs
      refine q_X0_home hx hb hml hown hts mM_RX5_102 ⟨Nat.le_of_ble_eq_true rfl, Nat.le_of_ble_eq_true rfl⟩ ⟨Nat.le_of_ble_eq_true rfl, Nat.le_of_ble_eq_true rfl⟩ hl.1 (Nat.le_of_ble_eq_true rfl) hS dX5_part_36 hA hC (2 : Int32) a0 h4 (fun locs hS => ?_)
      refine lv_iload_n hx hb dX5_part_39 rfl (lv_at hl 2 rfl) ?_
      refine lv_iadd hx hb dX5_part_40 ?_
      obtain ⟨h5, hs⟩ := hs
      refine va_lald hx hb hK hP 2 1 rfl rfl h5 dX5_part_41 ?_
      rw [hQ9]
      have hf : f_X5_part a0 a1 Bc = (0, (Bc ((f_X0_home (2 : Int32) a0) + a1).toNatClampNeg)) := by simp only [f_X5_part, ← hu1, if_pos c2, if_neg c3]
      refine vx_ret ?_
      refine W.widen (k := 2) (n := 12) (Nat.le_of_ble_eq_true rfl) (Nat.le_of_ble_eq_true rfl) ?_
      exact W.lret (v := (Bc ((f_X0_home (2 : Int32) a0) + a1).toNatClampNeg)) hx hb hr (fun t ht hW => ⟨⟨(Bc ((f_X0_home (2 : Int32) a0) + a1).toNatClampNeg), (), rfl, ⟨by rw [hf], by rw [hf]⟩, by show va_P (dC, dI) vwCl _ t.heap; rw [ht]; exact hP⟩, hS.F ht⟩) hS.2.2 dX5_part_42
    · have hs := hs.1 c3
      rw [hQ9]
      have hf : f_X5_part a0 a1 Bc = (2, 0) := by simp only [f_X5_part, ← hu1, if_pos c2, if_pos c3]
      obtain ⟨sa6, hsa6⟩ := hC.str 7 _ rfl
      refine vx_throwS (mc := 2) (ms := 12) (ik := 108) (ic := 112) (is := 110) (own := RX5) (cls := x_IOO) (text := "no such part of GLUE") (names := x_nam) hx hb hst hown (by decide) nm_x (hts _ mC_RX5_108) (hts _ mN_IndexOutOfBoundsException) hsa6 (xw_IOO hts hC) xg_IOO hC.1 hC.2.1 hS (by rw [hml]; exact hl.1) dX5_part_17 dX5_part_20 dX5_part_21 dX5_part_23 dX5_part_26 (fun x hx => (ht x hx).elim) (Nat.le_of_ble_eq_true rfl) (Nat.le_of_ble_eq_true rfl) (Nat.le_of_ble_eq_true rfl) (Nat.le_of_ble_eq_true rfl) hlocks (fun t hv hz hk => ⟨(), by rw [hf]; exact (by decide : ¬ (2 : Nat) = 0), ⟨by rw [hf]; rfl, by exact hP.kept (fun k z hkz => hk z.1 (hP k z hkz).lt)⟩, ⟨Nat.le_trans hS.1 hz, fun q h1 h2 => (hk q (Nat.lt_of_lt_of_le h1 hS.1)).trans (hS.2.1 q h1 h2)⟩⟩) hS.2.2 (Nat.le_of_ble_eq_true rfl) (Nat.le_of_ble_eq_true rfl)
theorem q_X5_part {p : Program} {l : Launch} {e : Env} {R : Room} {s : State} {m : MethodId} {args : Array Value} {below : List Frame} {meth : Method} {c : Code} {H : Heap} {locs : List Loc} {cells slots : Nat} {Q : State → Prop} {pc : Nat} {ls : Array Slot} {rest : List Value} {cc : ByteArray} {nL idx : Nat} {own : String} {A0 : Nat → Prop} {dC : Nat → ClassId} {dI : Nat → Nat → Nat} {cI cJ : ClassId} {ad : Nat → Nat} {Bc : Nat → Int64} {Bl : Nat → Int32} {Pk : Nat → Int32} {Pr : Nat → Int32} {Pl : Nat → Int32} {Pc : Nat → Int64} {Pm : Int32} {Gf : Nat → Int32} {Gt : Nat → Int32} {Gx : Nat → Int32} {Gd : Int32} {Gm : Int32} {Ek : Nat → Int32} {Er : Nat → Int32} {Ea : Nat → Int32} {Ex : Nat → Int32} {Em : Int32} {Eb : Int32} {Et : Int32} {Ss : Nat → Int32} {Sm : Int32} {Wg : Nat → Int64} {Wr : Nat → Int64} {Md : Nat → Int64} (hst : l.stackTraces = false) (hx : p.tables.exec = Jvm.exec) (hb : c.code = cc) (hml : c.maxLocals = nL) (hown : s.vm.findClass own = some m.cls) (hts : ∀ w ∈ bigW, w.before args s = true) (hlk : Cond.methodLink own idx yX5_part ∈ bigW) (hR : 8 ≤ R.frames ∧ 135 ≤ R.locals) (hf : cells + 2 ≤ R.cells ∧ slots + 12 ≤ R.slots) (hz : ls.size = nL) (hw : (rest.map fun v => v.category).sum ≤ 8) (hS : va_S A0 s.heap H locs) (hd : decode cc pc = .ok (.invokevirtual idx, 3)) (hA : ∀ q, fA 23 ad H.size q → A0 q) (hi : fI 23 ad) (hK : va_K (dC, dI) vwCl [(cI, .int), (cJ, .long)] s) (hP : va_P (dC, dI) vwCl (wC ad cI cJ Bc Bl Pk Pr Pl Pc Pm Gf Gt Gx Gd Gm Ek Er Ea Ex Em Eb Et Ss Sm Wg Wr Md) H) (hC : cxt A0 s s.heap) (a0 : Int32) (a1 : Int32) (hs : S_X5_part a0 a1 Bc)  (u : Nat × Int64) (hu : u = f_X5_part a0 a1 Bc) (kx : ∀ {E : String} (hE : E = exN u.1) (ho : ¬ u.1 = 0) (H1 : Heap) (locs1 : List Loc), va_P (dC, dI) vwCl (wC ad cI cJ Bc Bl Pk Pr Pl Pc Pm Gf Gt Gx Gd Gm Ek Er Ea Ex Em Eb Et Ss Sm Wg Wr Md) H1 → va_S A0 s.heap H1 locs1 → ∀ (ce : Cell) (q9 : Addr), H1[q9]? = some ce → ce.vm = .none → s.vm.findClass E = some ce.cls → vx_W p l e R s m args below meth c H1 locs1 (cells + 2) (slots + 12) Q (F0 m pc ls rest) q9) (k : u.1 = 0 → ∀ (H1 : Heap) (locs1 : List Loc), va_P (dC, dI) vwCl (wC ad cI cJ Bc Bl Pk Pr Pl Pc Pm Gf Gt Gx Gd Gm Ek Er Ea Ex Em Eb Et Ss Sm Wg Wr Md) H1 → va_S A0 s.heap H1 locs1 → W p l e R s m args below meth c H1 locs1 (cells + 2) (slots + 12) Q (F0 m (pc + 3) ls (.long u.2 :: rest))) : W p l e R s m args below meth c H locs cells slots Q (F0 m pc ls (.int a1 :: .int a0 :: .ref (ad 0) :: rest)) := by
  subst hu
  exact vx_calll (vx_runV (As := [.int a0, .int a1]) (rest := rest) ⟨hx, hb, hml, hown, hts⟩ (c_X5_part l hst dC dI cI cJ ad hi H.size Bc Bl Pk Pr Pl Pc Pm Gf Gt Gx Gd Gm Ek Er Ea Ex Em Eb Et Ss Sm Wg Wr Md a0 a1 hs) (kV 2 hts hlk mI_X5_part mN_RX5 mY_X5_part mV_X5_part rfl rfl (by decide +kernel) hR) ⟨fun a U g mk q => ⟨q.1, q.2.1, q.2.2.1, va_K.moved (u := U) (U := U.calling g mk a) (Vm.Alike.refl U.vm) q.2.2.2.1, q.2.2.2.2.call⟩, va_recv hK hP (ci := 7) (q0 := 0) rfl rfl, fun U hU hW => ⟨rfl, by rw [hU], by rw [hU]; exact hP, va_K.moved hW.alike hK, hC.here hS hU hW hA⟩⟩ rfl rfl hz rfl (lv_room hw) hd hf) hS (fun q _ h => hA q h) (fun q h => hA q h) (fun q _ h => hA q h) (fun E ce q9 u t H1 locs1 ht hvm hw9 hB hz1 hk1 hS1 h1 h2 h3 => kx hB.1 hw9 H1 locs1 (by rw [← ht]; exact hB.2) hS1 ce q9 h1 h2 h3) (fun r u t H1 locs1 ht hvm hw9 hB hz1 hk1 hS1 => by
    obtain ⟨e1, rfl⟩ := hw9
    exact k e1 H1 locs1 (by rw [← ht]; exact hB) hS1)
theorem qf_X5_part {p : Program} {l : Launch} {e : Env} {R : Room} {s : State} {m : MethodId} {args : Array Value} {below : List Frame} {meth : Method} {c : Code} {H : Heap} {locs : List Loc} {cells slots : Nat} {Q : State → Prop} {pc : Nat} {ls : Array Slot} {rest : List Value} {cc : ByteArray} {nL idx : Nat} {own : String} {A0 : Nat → Prop} {dC : Nat → ClassId} {dI : Nat → Nat → Nat} {cI cJ : ClassId} {ad : Nat → Nat} {Bc : Nat → Int64} {Bl : Nat → Int32} {Pk : Nat → Int32} {Pr : Nat → Int32} {Pl : Nat → Int32} {Pc : Nat → Int64} {Pm : Int32} {Gf : Nat → Int32} {Gt : Nat → Int32} {Gx : Nat → Int32} {Gd : Int32} {Gm : Int32} {Ek : Nat → Int32} {Er : Nat → Int32} {Ea : Nat → Int32} {Ex : Nat → Int32} {Em : Int32} {Eb : Int32} {Et : Int32} {Ss : Nat → Int32} {Sm : Int32} {Wg : Nat → Int64} {Wr : Nat → Int64} {Md : Nat → Int64} (hst : l.stackTraces = false) (hx : p.tables.exec = Jvm.exec) (hb : c.code = cc) (hml : c.maxLocals = nL) (hown : s.vm.findClass own = some m.cls) (hts : ∀ w ∈ bigW, w.before args s = true) (hlk : Cond.methodLink own idx yX5_part ∈ bigW) (hR : 8 ≤ R.frames ∧ 135 ≤ R.locals) (hf : cells + 2 ≤ R.cells ∧ slots + 12 ≤ R.slots) (hz : ls.size = nL) (hw : (rest.map fun v => v.category).sum ≤ 8) (hS : va_S A0 s.heap H locs) (hd : decode cc pc = .ok (.invokevirtual idx, 3)) (hA : ∀ q, fA 23 ad H.size q → A0 q) (hi : fI 23 ad) (hK : va_K (dC, dI) vwCl [(cI, .int), (cJ, .long)] s) (hP : va_P (dC, dI) vwCl (wC ad cI cJ Bc Bl Pk Pr Pl Pc Pm Gf Gt Gx Gd Gm Ek Er Ea Ex Em Eb Et Ss Sm Wg Wr Md) H) (hC : cxt A0 s s.heap) (a0 : Int32) (a1 : Int32) (hs : S_X5_part a0 a1 Bc)  (u : Nat × Int64) (hu : u = f_X5_part a0 a1 Bc) (kx : ∀ {E : String} (hE : E = exN u.1) (ho : ¬ u.1 = 0) (H1 : Heap) (locs1 : List Loc), va_P (dC, dI) vwCl (wC ad cI cJ Bc Bl Pk Pr Pl Pc Pm Gf Gt Gx Gd Gm Ek Er Ea Ex Em Eb Et Ss Sm Wg Wr Md) H1 → va_S A0 s.heap H1 locs1 → (∀ q : Nat, q < H.size → ¬ fA 23 ad H.size q → H1[q]? = H[q]?) → H.size ≤ H1.size → ∀ (ce : Cell) (q9 : Addr), H1[q9]? = some ce → ce.vm = .none → s.vm.findClass E = some ce.cls → vx_W p l e R s m args below meth c H1 locs1 (cells + 2) (slots + 12) Q (F0 m pc ls rest) q9) (k : u.1 = 0 → ∀ (H1 : Heap) (locs1 : List Loc), va_P (dC, dI) vwCl (wC ad cI cJ Bc Bl Pk Pr Pl Pc Pm Gf Gt Gx Gd Gm Ek Er Ea Ex Em Eb Et Ss Sm Wg Wr Md) H1 → va_S A0 s.heap H1 locs1 → (∀ q : Nat, q < H.size → ¬ fA 23 ad H.size q → H1[q]? = H[q]?) → H.size ≤ H1.size → W p l e R s m args below meth c H1 locs1 (cells + 2) (slots + 12) Q (F0 m (pc + 3) ls (.long u.2 :: rest))) : W p l e R s m args below meth c H locs cells slots Q (F0 m pc ls (.int a1 :: .int a0 :: .ref (ad 0) :: rest)) := by
  subst hu
  exact vx_calll (vx_runV (As := [.int a0, .int a1]) (rest := rest) ⟨hx, hb, hml, hown, hts⟩ (c_X5_part l hst dC dI cI cJ ad hi H.size Bc Bl Pk Pr Pl Pc Pm Gf Gt Gx Gd Gm Ek Er Ea Ex Em Eb Et Ss Sm Wg Wr Md a0 a1 hs) (kV 2 hts hlk mI_X5_part mN_RX5 mY_X5_part mV_X5_part rfl rfl (by decide +kernel) hR) ⟨fun a U g mk q => ⟨q.1, q.2.1, q.2.2.1, va_K.moved (u := U) (U := U.calling g mk a) (Vm.Alike.refl U.vm) q.2.2.2.1, q.2.2.2.2.call⟩, va_recv hK hP (ci := 7) (q0 := 0) rfl rfl, fun U hU hW => ⟨rfl, by rw [hU], by rw [hU]; exact hP, va_K.moved hW.alike hK, hC.here hS hU hW hA⟩⟩ rfl rfl hz rfl (lv_room hw) hd hf) hS (fun q _ h => hA q h) (fun q h => hA q h) (fun q _ h => hA q h) (fun E ce q9 u t H1 locs1 ht hvm hw9 hB hz1 hk1 hS1 h1 h2 h3 => kx hB.1 hw9 H1 locs1 (by rw [← ht]; exact hB.2) hS1 hk1 hz1 ce q9 h1 h2 h3) (fun r u t H1 locs1 ht hvm hw9 hB hz1 hk1 hS1 => by
    obtain ⟨e1, rfl⟩ := hw9
    exact k e1 H1 locs1 (by rw [← ht]; exact hB) hS1 hk1 hz1)

def f_X5_at (a0 : Int32) (a1 : Int32) (Bc : Nat → Int64) : Nat × Int32 := (let u1 := f_X5_checkRegister a0.toInt64; (if u1 = 0 then (if a1 < 0 then (2, 0) else (if (20 : Int32) ≤ a1 then (2, 0) else (if a1.toInt64 < (Bc (f_X0_home (3 : Int32) a0).toNatClampNeg) then (0, (Bc (((f_X0_home (3 : Int32) a0) + (1 : Int32)) + a1).toNatClampNeg).toInt32) else (2, 0)))) else (u1, 0)))
def S_X5_at (a0 : Int32) (a1 : Int32) (Bc : Nat → Int64) : Prop := ∀ u1, u1 = f_X5_checkRegister a0.toInt64 → (u1 = 0 → ((S_X0_home (3 : Int32) a0) ∧ ((a1 < 0 → (True)) ∧ (¬ a1 < 0 → (((20 : Int32) ≤ a1 → (True)) ∧ (¬ (20 : Int32) ≤ a1 → ((vp_in (f_X0_home (3 : Int32) a0) 928) ∧ ((a1.toInt64 < (Bc (f_X0_home (3 : Int32) a0).toNatClampNeg) → ((vp_in (((f_X0_home (3 : Int32) a0) + (1 : Int32)) + a1) 928) ∧ (True))) ∧ (¬ a1.toInt64 < (Bc (f_X0_home (3 : Int32) a0).toNatClampNeg) → (True))))))))))
set_option maxHeartbeats 4000000 in
set_option maxRecDepth 100000 in
theorem c_X5_at (l : Launch) (hst : l.stackTraces = false) (dC : Nat → ClassId) (dI : Nat → Nat → Nat) (cI cJ : ClassId) (ad : Nat → Nat) (hi : fI 23 ad) (sz : Nat) (Bc : Nat → Int64) (Bl : Nat → Int32) (Pk : Nat → Int32) (Pr : Nat → Int32) (Pl : Nat → Int32) (Pc : Nat → Int64) (Pm : Int32) (Gf : Nat → Int32) (Gt : Nat → Int32) (Gx : Nat → Int32) (Gd : Int32) (Gm : Int32) (Ek : Nat → Int32) (Er : Nat → Int32) (Ea : Nat → Int32) (Ex : Nat → Int32) (Em : Int32) (Eb : Int32) (Et : Int32) (Ss : Nat → Int32) (Sm : Int32) (Wg : Nat → Int64) (Wr : Nat → Int64) (Md : Nat → Int64) (a0 : Int32) (a1 : Int32) (hs : S_X5_at a0 a1 Bc) : vx_Met l yX5_at (mW yX5_at cX5_at 4 (some .int)) { frames := 7, cells := 2, slots := 12, locals := 113 } (va_Pc [.ref (ad 0), .int a0, .int a1] (fun U => U.heap.size = sz ∧ va_P (dC, dI) vwCl (wC ad cI cJ Bc Bl Pk Pr Pl Pc Pm Gf Gt Gx Gd Gm Ek Er Ea Ex Em Eb Et Ss Sm Wg Wr Md) U.heap ∧ va_K (dC, dI) vwCl [(cI, .int), (cJ, .long)] U ∧ cxt (fA 23 ad sz) U U.heap)) (va_Qi (fun (r : Int32) (_ : Unit) => (f_X5_at a0 a1 Bc).1 = 0 ∧ r = (f_X5_at a0 a1 Bc).2) (fun _ t => va_P (dC, dI) vwCl (wC ad cI cJ Bc Bl Pk Pr Pl Pc Pm Gf Gt Gx Gd Gm Ek Er Ea Ex Em Eb Et Ss Sm Wg Wr Md) t.heap) (fA 23 ad sz)) (vx_X (fun _ : Unit => ¬ (f_X5_at a0 a1 Bc).1 = 0) (fun E _ t => E = exN ((f_X5_at a0 a1 Bc).1) ∧ va_P (dC, dI) vwCl (wC ad cI cJ Bc Bl Pk Pr Pl Pc Pm Gf Gt Gx Gd Gm Ek Er Ea Ex Em Eb Et Ss Sm Wg Wr Md) t.heap) (fA 23 ad sz)) 2 12 (fA 23 ad sz) := by
  refine vx_ofW (cc := cX5_at) (maxL := 4) (ret := (some .int)) (by decide) rfl ?_
  intro p e s m args below meth c s₁ B hml ht hv
  obtain ⟨rfl, hsz, hP, hK, hC⟩ := hv
  have hx := B.exec
  have hb := B.bytes
  have hr := B.returns
  have hts := mW_hts (atoms_spec (ws := (mW yX5_at cX5_at 4 (some .int))) B.pre)
  have hown : s.vm.findClass RX5 = some m.cls := findClass_of_methodNamed B.named
  have hlocks := B.notSynchronized
  subst hsz
  have hA : ∀ (n : Nat) (q : Nat), s.heap.size ≤ n → n ≤ q → fA 23 ad s.heap.size q := fun n q h1 h2 => Or.inr (Nat.le_trans h1 h2)
  have hS : va_S (fA 23 ad s.heap.size) s.heap s.heap [] := va_S.rf
  have hA : ∀ q, s.heap.size ≤ q → (fA 23 ad s.heap.size) q := fun q h => Or.inr h
  unfold S_X5_at at hs
  have hl := lv_entry ([.ref (ad 0), .int a0, .int a1]) (n := 4) (Nat.le_of_ble_eq_true rfl)
  rw [lg_entry_eq]
  generalize (lg_sl ([.ref (ad 0), .int a0, .int a1]) ++ List.replicate (4 - (lg_sl ([.ref (ad 0), .int a0, .int a1])).length) Slot.unset).toArray = ls at hl ⊢
  have hl : lv_has ls 4 [(0, .ref (ad 0)), (1, .int a0), (2, .int a1)] := hl
  refine W_gen (fun Q9 hQ9 => ?_)
  refine lv_iload_n hx hb dX5_at_0 rfl (lv_at hl 1 rfl) ?_
  refine lv_i2l hx hb dX5_at_1 rfl ?_
  obtain ⟨u1, hu1⟩ : ∃ z, z = f_X5_checkRegister a0.toInt64 := ⟨_, rfl⟩
  have hs := hs u1 hu1
  refine q_X5_checkRegister hst hx hb hml hown hts mM_RX5_87 ⟨Nat.le_of_ble_eq_true rfl, Nat.le_of_ble_eq_true rfl⟩ ⟨Nat.le_of_ble_eq_true rfl, Nat.le_of_ble_eq_true rfl⟩ hl.1 (Nat.le_of_ble_eq_true rfl) hS dX5_at_2 hA hC a0.toInt64 u1 hu1 (fun hE c2 H locs hk hz hS ce q9 h71 h72 h73 => ?_) (fun c2 locs hS => ?_)
  · have hP := hP.kept (H1 := H) (fun k z hkz => hk z.1 (hP k z hkz).lt)
    rw [hQ9]
    have hf : f_X5_at a0 a1 Bc = (u1, 0) := by simp only [f_X5_at, ← hu1, if_neg c2]
    refine vx_widen (k := 2) (n := 12) (Nat.le_of_ble_eq_true rfl) (Nat.le_of_ble_eq_true rfl) (vx_out (fun x hx => (ht x hx).elim) hlocks h71 h72 h73 (fun t hh hv => ⟨(), by rw [hf]; exact c2, ⟨by rw [hf]; exact hE, by show va_P (dC, dI) vwCl _ t.heap; rw [hh]; exact hP⟩, hS.F hh⟩) hS.2.2 (Nat.le_of_ble_eq_true rfl) (Nat.le_of_ble_eq_true rfl))
  · have hs := hs c2
    refine lv_iconst (v := 3) hx hb dX5_at_5 (by decide) ?_
    refine lv_iload_n hx hb dX5_at_6 rfl (lv_at hl 1 rfl) ?_
    obtain ⟨h3, hs⟩ := hs
    refine q_X0_home hx hb hml hown hts mM_RX5_102 ⟨Nat.le_of_ble_eq_true rfl, Nat.le_of_ble_eq_true rfl⟩ ⟨Nat.le_of_ble_eq_true rfl, Nat.le_of_ble_eq_true rfl⟩ hl.1 (Nat.le_of_ble_eq_true rfl) hS dX5_at_7 hA hC (3 : Int32) a0 h3 (fun locs hS => ?_)
    refine lv_istore_n (lv' := [(3, .int (f_X0_home (3 : Int32) a0)), (0, .ref (ad 0)), (1, .int a0), (2, .int a1)]) hx hb dX5_at_10 rfl hl (by decide) rfl (fun ls hl => ?_)
    refine lv_iload_n hx hb dX5_at_11 rfl (lv_at hl 3 rfl) ?_
    refine lv_if_lt (tgt := 36) hx hb dX5_at_12 (by decide) (fun c4 => ?_) (fun c4 => ?_)
    · have hs := hs.1 c4
      rw [hQ9]
      have hf : f_X5_at a0 a1 Bc = (2, 0) := by simp only [f_X5_at, ← hu1, if_pos c2, if_pos c4]
      obtain ⟨sa5, hsa5⟩ := hC.str 8 _ rfl
      refine vx_throwS (mc := 2) (ms := 12) (ik := 108) (ic := 112) (is := 113) (own := RX5) (cls := x_IOO) (text := "no such TOKEN") (names := x_nam) hx hb hst hown (by decide) nm_x (hts _ mC_RX5_108) (hts _ mN_IndexOutOfBoundsException) hsa5 (xw_IOO hts hC) xg_IOO hC.1 hC.2.1 hS (by rw [hml]; exact hl.1) dX5_at_36 dX5_at_39 dX5_at_40 dX5_at_42 dX5_at_45 (fun x hx => (ht x hx).elim) (Nat.le_of_ble_eq_true rfl) (Nat.le_of_ble_eq_true rfl) (Nat.le_of_ble_eq_true rfl) (Nat.le_of_ble_eq_true rfl) hlocks (fun t hv hz hk => ⟨(), by rw [hf]; exact (by decide : ¬ (2 : Nat) = 0), ⟨by rw [hf]; rfl, by exact hP.kept (fun k z hkz => hk z.1 (hP k z hkz).lt)⟩, ⟨Nat.le_trans hS.1 hz, fun q h1 h2 => (hk q (Nat.lt_of_lt_of_le h1 hS.1)).trans (hS.2.1 q h1 h2)⟩⟩) hS.2.2 (Nat.le_of_ble_eq_true rfl) (Nat.le_of_ble_eq_true rfl)
    · have hs := hs.2 c4
      refine lv_iload_n hx hb dX5_at_15 rfl (lv_at hl 3 rfl) ?_
      refine lv_bipush (v := 20) hx hb dX5_at_16 (by decide) ?_
      refine lv_icmp_ge (tgt := 36) hx hb dX5_at_18 (by decide) (fun c6 => ?_) (fun c6 => ?_)
      · have hs := hs.1 c6
        rw [hQ9]
        have hf : f_X5_at a0 a1 Bc = (2, 0) := by simp only [f_X5_at, ← hu1, if_pos c2, if_neg c4, if_pos c6]
        obtain ⟨sa7, hsa7⟩ := hC.str 8 _ rfl
        refine vx_throwS (mc := 2) (ms := 12) (ik := 108) (ic := 112) (is := 113) (own := RX5) (cls := x_IOO) (text := "no such TOKEN") (names := x_nam) hx hb hst hown (by decide) nm_x (hts _ mC_RX5_108) (hts _ mN_IndexOutOfBoundsException) hsa7 (xw_IOO hts hC) xg_IOO hC.1 hC.2.1 hS (by rw [hml]; exact hl.1) dX5_at_36 dX5_at_39 dX5_at_40 dX5_at_42 dX5_at_45 (fun x hx => (ht x hx).elim) (Nat.le_of_ble_eq_true rfl) (Nat.le_of_ble_eq_true rfl) (Nat.le_of_ble_eq_true rfl) (Nat.le_of_ble_eq_true rfl) hlocks (fun t hv hz hk => ⟨(), by rw [hf]; exact (by decide : ¬ (2 : Nat) = 0), ⟨by rw [hf]; rfl, by exact hP.kept (fun k z hkz => hk z.1 (hP k z hkz).lt)⟩, ⟨Nat.le_trans hS.1 hz, fun q h1 h2 => (hk q (Nat.lt_of_lt_of_le h1 hS.1)).trans (hS.2.1 q h1 h2)⟩⟩) hS.2.2 (Nat.le_of_ble_eq_true rfl) (Nat.le_of_ble_eq_true rfl)
      · have hs := hs.2 c6
        refine lv_iload_n hx hb dX5_at_21 rfl (lv_at hl 3 rfl) ?_
        refine lv_i2l hx hb dX5_at_22 rfl ?_
        refine lv_aload_n hx hb dX5_at_23 rfl (lv_at hl 1 rfl) ?_
        refine va_get (D := (dC, dI)) (ci := 7) (v := .ref (ad 1)) (C := RX5) (T := TX5) (N := 8) hx hb hts iW_X5 hown hK hP 0 rfl rfl 0 (by decide) (hts _ mF_RX5_10) (fun _ h9 => h9) rfl dX5_at_24 ?_
        refine va_get (D := (dC, dI)) (ci := 2) (v := .ref (ad 2)) (C := RX0) (T := TX0) (N := 2) hx hb hts iW_X0 hown hK hP 1 rfl rfl 0 (by decide) (hts _ mF_RX5_99) (fun _ h9 => h9) rfl dX5_at_27 ?_
        refine lv_iload_n hx hb dX5_at_30 rfl (lv_at hl 0 rfl) ?_
        obtain ⟨h8, hs⟩ := hs
        refine va_lald hx hb hK hP 2 1 rfl rfl h8 dX5_at_31 ?_
        refine W.lcmp hx hb dX5_at_32 ?_
        refine lv_if_lt (tgt := 46) hx hb dX5_at_33 (by decide) (fun c9 => ?_) (fun c9 => ?_)
        · have c9 : a1.toInt64 < (Bc (f_X0_home (3 : Int32) a0).toNatClampNeg) := lc_lt.mp c9
          have hs := hs.1 c9
          refine lv_aload_n hx hb dX5_at_46 rfl (lv_at hl 1 rfl) ?_
          refine va_get (D := (dC, dI)) (ci := 7) (v := .ref (ad 1)) (C := RX5) (T := TX5) (N := 8) hx hb hts iW_X5 hown hK hP 0 rfl rfl 0 (by decide) (hts _ mF_RX5_10) (fun _ h9 => h9) rfl dX5_at_47 ?_
          refine va_get (D := (dC, dI)) (ci := 2) (v := .ref (ad 2)) (C := RX0) (T := TX0) (N := 2) hx hb hts iW_X0 hown hK hP 1 rfl rfl 0 (by decide) (hts _ mF_RX5_99) (fun _ h9 => h9) rfl dX5_at_50 ?_
          refine lv_iload_n hx hb dX5_at_53 rfl (lv_at hl 0 rfl) ?_
          refine lv_iconst (v := 1) hx hb dX5_at_54 (by decide) ?_
          refine lv_iadd hx hb dX5_at_55 ?_
          refine lv_iload_n hx hb dX5_at_56 rfl (lv_at hl 3 rfl) ?_
          refine lv_iadd hx hb dX5_at_57 ?_
          obtain ⟨h10, hs⟩ := hs
          refine va_lald hx hb hK hP 2 1 rfl rfl h10 dX5_at_58 ?_
          refine lv_l2i hx hb dX5_at_59 rfl ?_
          rw [hQ9]
          have hf : f_X5_at a0 a1 Bc = (0, (Bc (((f_X0_home (3 : Int32) a0) + (1 : Int32)) + a1).toNatClampNeg).toInt32) := by simp only [f_X5_at, ← hu1, if_pos c2, if_neg c4, if_neg c6, if_pos c9]
          refine vx_ret ?_
          refine W.widen (k := 2) (n := 12) (Nat.le_of_ble_eq_true rfl) (Nat.le_of_ble_eq_true rfl) ?_
          exact W.iret (v := (Bc (((f_X0_home (3 : Int32) a0) + (1 : Int32)) + a1).toNatClampNeg).toInt32) hx hb hr (fun t ht hW => ⟨⟨(Bc (((f_X0_home (3 : Int32) a0) + (1 : Int32)) + a1).toNatClampNeg).toInt32, (), rfl, ⟨by rw [hf], by rw [hf]⟩, by show va_P (dC, dI) vwCl _ t.heap; rw [ht]; exact hP⟩, hS.F ht⟩) hS.2.2 dX5_at_60
        · have c9 : ¬ a1.toInt64 < (Bc (f_X0_home (3 : Int32) a0).toNatClampNeg) := fun z => c9 (lc_lt.mpr z)
          have hs := hs.2 c9
          rw [hQ9]
          have hf : f_X5_at a0 a1 Bc = (2, 0) := by simp only [f_X5_at, ← hu1, if_pos c2, if_neg c4, if_neg c6, if_neg c9]
          obtain ⟨sa11, hsa11⟩ := hC.str 8 _ rfl
          refine vx_throwS (mc := 2) (ms := 12) (ik := 108) (ic := 112) (is := 113) (own := RX5) (cls := x_IOO) (text := "no such TOKEN") (names := x_nam) hx hb hst hown (by decide) nm_x (hts _ mC_RX5_108) (hts _ mN_IndexOutOfBoundsException) hsa11 (xw_IOO hts hC) xg_IOO hC.1 hC.2.1 hS (by rw [hml]; exact hl.1) dX5_at_36 dX5_at_39 dX5_at_40 dX5_at_42 dX5_at_45 (fun x hx => (ht x hx).elim) (Nat.le_of_ble_eq_true rfl) (Nat.le_of_ble_eq_true rfl) (Nat.le_of_ble_eq_true rfl) (Nat.le_of_ble_eq_true rfl) hlocks (fun t hv hz hk => ⟨(), by rw [hf]; exact (by decide : ¬ (2 : Nat) = 0), ⟨by rw [hf]; rfl, by exact hP.kept (fun k z hkz => hk z.1 (hP k z hkz).lt)⟩, ⟨Nat.le_trans hS.1 hz, fun q h1 h2 => (hk q (Nat.lt_of_lt_of_le h1 hS.1)).trans (hS.2.1 q h1 h2)⟩⟩) hS.2.2 (Nat.le_of_ble_eq_true rfl) (Nat.le_of_ble_eq_true rfl)
theorem q_X5_at {p : Program} {l : Launch} {e : Env} {R : Room} {s : State} {m : MethodId} {args : Array Value} {below : List Frame} {meth : Method} {c : Code} {H : Heap} {locs : List Loc} {cells slots : Nat} {Q : State → Prop} {pc : Nat} {ls : Array Slot} {rest : List Value} {cc : ByteArray} {nL idx : Nat} {own : String} {A0 : Nat → Prop} {dC : Nat → ClassId} {dI : Nat → Nat → Nat} {cI cJ : ClassId} {ad : Nat → Nat} {Bc : Nat → Int64} {Bl : Nat → Int32} {Pk : Nat → Int32} {Pr : Nat → Int32} {Pl : Nat → Int32} {Pc : Nat → Int64} {Pm : Int32} {Gf : Nat → Int32} {Gt : Nat → Int32} {Gx : Nat → Int32} {Gd : Int32} {Gm : Int32} {Ek : Nat → Int32} {Er : Nat → Int32} {Ea : Nat → Int32} {Ex : Nat → Int32} {Em : Int32} {Eb : Int32} {Et : Int32} {Ss : Nat → Int32} {Sm : Int32} {Wg : Nat → Int64} {Wr : Nat → Int64} {Md : Nat → Int64} (hst : l.stackTraces = false) (hx : p.tables.exec = Jvm.exec) (hb : c.code = cc) (hml : c.maxLocals = nL) (hown : s.vm.findClass own = some m.cls) (hts : ∀ w ∈ bigW, w.before args s = true) (hlk : Cond.methodLink own idx yX5_at ∈ bigW) (hR : 8 ≤ R.frames ∧ 136 ≤ R.locals) (hf : cells + 2 ≤ R.cells ∧ slots + 12 ≤ R.slots) (hz : ls.size = nL) (hw : (rest.map fun v => v.category).sum ≤ 8) (hS : va_S A0 s.heap H locs) (hd : decode cc pc = .ok (.invokevirtual idx, 3)) (hA : ∀ q, fA 23 ad H.size q → A0 q) (hi : fI 23 ad) (hK : va_K (dC, dI) vwCl [(cI, .int), (cJ, .long)] s) (hP : va_P (dC, dI) vwCl (wC ad cI cJ Bc Bl Pk Pr Pl Pc Pm Gf Gt Gx Gd Gm Ek Er Ea Ex Em Eb Et Ss Sm Wg Wr Md) H) (hC : cxt A0 s s.heap) (a0 : Int32) (a1 : Int32) (hs : S_X5_at a0 a1 Bc)  (u : Nat × Int32) (hu : u = f_X5_at a0 a1 Bc) (kx : ∀ {E : String} (hE : E = exN u.1) (ho : ¬ u.1 = 0) (H1 : Heap) (locs1 : List Loc), va_P (dC, dI) vwCl (wC ad cI cJ Bc Bl Pk Pr Pl Pc Pm Gf Gt Gx Gd Gm Ek Er Ea Ex Em Eb Et Ss Sm Wg Wr Md) H1 → va_S A0 s.heap H1 locs1 → ∀ (ce : Cell) (q9 : Addr), H1[q9]? = some ce → ce.vm = .none → s.vm.findClass E = some ce.cls → vx_W p l e R s m args below meth c H1 locs1 (cells + 2) (slots + 12) Q (F0 m pc ls rest) q9) (k : u.1 = 0 → ∀ (H1 : Heap) (locs1 : List Loc), va_P (dC, dI) vwCl (wC ad cI cJ Bc Bl Pk Pr Pl Pc Pm Gf Gt Gx Gd Gm Ek Er Ea Ex Em Eb Et Ss Sm Wg Wr Md) H1 → va_S A0 s.heap H1 locs1 → W p l e R s m args below meth c H1 locs1 (cells + 2) (slots + 12) Q (F0 m (pc + 3) ls (.int u.2 :: rest))) : W p l e R s m args below meth c H locs cells slots Q (F0 m pc ls (.int a1 :: .int a0 :: .ref (ad 0) :: rest)) := by
  subst hu
  exact vx_calli (vx_runV (As := [.int a0, .int a1]) (rest := rest) ⟨hx, hb, hml, hown, hts⟩ (c_X5_at l hst dC dI cI cJ ad hi H.size Bc Bl Pk Pr Pl Pc Pm Gf Gt Gx Gd Gm Ek Er Ea Ex Em Eb Et Ss Sm Wg Wr Md a0 a1 hs) (kV 2 hts hlk mI_X5_at mN_RX5 mY_X5_at mV_X5_at rfl rfl (by decide +kernel) hR) ⟨fun a U g mk q => ⟨q.1, q.2.1, q.2.2.1, va_K.moved (u := U) (U := U.calling g mk a) (Vm.Alike.refl U.vm) q.2.2.2.1, q.2.2.2.2.call⟩, va_recv hK hP (ci := 7) (q0 := 0) rfl rfl, fun U hU hW => ⟨rfl, by rw [hU], by rw [hU]; exact hP, va_K.moved hW.alike hK, hC.here hS hU hW hA⟩⟩ rfl rfl hz rfl (lv_room hw) hd hf) hS (fun q _ h => hA q h) (fun q h => hA q h) (fun q _ h => hA q h) (fun E ce q9 u t H1 locs1 ht hvm hw9 hB hz1 hk1 hS1 h1 h2 h3 => kx hB.1 hw9 H1 locs1 (by rw [← ht]; exact hB.2) hS1 ce q9 h1 h2 h3) (fun r u t H1 locs1 ht hvm hw9 hB hz1 hk1 hS1 => by
    obtain ⟨e1, rfl⟩ := hw9
    exact k e1 H1 locs1 (by rw [← ht]; exact hB) hS1)
theorem qf_X5_at {p : Program} {l : Launch} {e : Env} {R : Room} {s : State} {m : MethodId} {args : Array Value} {below : List Frame} {meth : Method} {c : Code} {H : Heap} {locs : List Loc} {cells slots : Nat} {Q : State → Prop} {pc : Nat} {ls : Array Slot} {rest : List Value} {cc : ByteArray} {nL idx : Nat} {own : String} {A0 : Nat → Prop} {dC : Nat → ClassId} {dI : Nat → Nat → Nat} {cI cJ : ClassId} {ad : Nat → Nat} {Bc : Nat → Int64} {Bl : Nat → Int32} {Pk : Nat → Int32} {Pr : Nat → Int32} {Pl : Nat → Int32} {Pc : Nat → Int64} {Pm : Int32} {Gf : Nat → Int32} {Gt : Nat → Int32} {Gx : Nat → Int32} {Gd : Int32} {Gm : Int32} {Ek : Nat → Int32} {Er : Nat → Int32} {Ea : Nat → Int32} {Ex : Nat → Int32} {Em : Int32} {Eb : Int32} {Et : Int32} {Ss : Nat → Int32} {Sm : Int32} {Wg : Nat → Int64} {Wr : Nat → Int64} {Md : Nat → Int64} (hst : l.stackTraces = false) (hx : p.tables.exec = Jvm.exec) (hb : c.code = cc) (hml : c.maxLocals = nL) (hown : s.vm.findClass own = some m.cls) (hts : ∀ w ∈ bigW, w.before args s = true) (hlk : Cond.methodLink own idx yX5_at ∈ bigW) (hR : 8 ≤ R.frames ∧ 136 ≤ R.locals) (hf : cells + 2 ≤ R.cells ∧ slots + 12 ≤ R.slots) (hz : ls.size = nL) (hw : (rest.map fun v => v.category).sum ≤ 8) (hS : va_S A0 s.heap H locs) (hd : decode cc pc = .ok (.invokevirtual idx, 3)) (hA : ∀ q, fA 23 ad H.size q → A0 q) (hi : fI 23 ad) (hK : va_K (dC, dI) vwCl [(cI, .int), (cJ, .long)] s) (hP : va_P (dC, dI) vwCl (wC ad cI cJ Bc Bl Pk Pr Pl Pc Pm Gf Gt Gx Gd Gm Ek Er Ea Ex Em Eb Et Ss Sm Wg Wr Md) H) (hC : cxt A0 s s.heap) (a0 : Int32) (a1 : Int32) (hs : S_X5_at a0 a1 Bc)  (u : Nat × Int32) (hu : u = f_X5_at a0 a1 Bc) (kx : ∀ {E : String} (hE : E = exN u.1) (ho : ¬ u.1 = 0) (H1 : Heap) (locs1 : List Loc), va_P (dC, dI) vwCl (wC ad cI cJ Bc Bl Pk Pr Pl Pc Pm Gf Gt Gx Gd Gm Ek Er Ea Ex Em Eb Et Ss Sm Wg Wr Md) H1 → va_S A0 s.heap H1 locs1 → (∀ q : Nat, q < H.size → ¬ fA 23 ad H.size q → H1[q]? = H[q]?) → H.size ≤ H1.size → ∀ (ce : Cell) (q9 : Addr), H1[q9]? = some ce → ce.vm = .none → s.vm.findClass E = some ce.cls → vx_W p l e R s m args below meth c H1 locs1 (cells + 2) (slots + 12) Q (F0 m pc ls rest) q9) (k : u.1 = 0 → ∀ (H1 : Heap) (locs1 : List Loc), va_P (dC, dI) vwCl (wC ad cI cJ Bc Bl Pk Pr Pl Pc Pm Gf Gt Gx Gd Gm Ek Er Ea Ex Em Eb Et Ss Sm Wg Wr Md) H1 → va_S A0 s.heap H1 locs1 → (∀ q : Nat, q < H.size → ¬ fA 23 ad H.size q → H1[q]? = H[q]?) → H.size ≤ H1.size → W p l e R s m args below meth c H1 locs1 (cells + 2) (slots + 12) Q (F0 m (pc + 3) ls (.int u.2 :: rest))) : W p l e R s m args below meth c H locs cells slots Q (F0 m pc ls (.int a1 :: .int a0 :: .ref (ad 0) :: rest)) := by
  subst hu
  exact vx_calli (vx_runV (As := [.int a0, .int a1]) (rest := rest) ⟨hx, hb, hml, hown, hts⟩ (c_X5_at l hst dC dI cI cJ ad hi H.size Bc Bl Pk Pr Pl Pc Pm Gf Gt Gx Gd Gm Ek Er Ea Ex Em Eb Et Ss Sm Wg Wr Md a0 a1 hs) (kV 2 hts hlk mI_X5_at mN_RX5 mY_X5_at mV_X5_at rfl rfl (by decide +kernel) hR) ⟨fun a U g mk q => ⟨q.1, q.2.1, q.2.2.1, va_K.moved (u := U) (U := U.calling g mk a) (Vm.Alike.refl U.vm) q.2.2.2.1, q.2.2.2.2.call⟩, va_recv hK hP (ci := 7) (q0 := 0) rfl rfl, fun U hU hW => ⟨rfl, by rw [hU], by rw [hU]; exact hP, va_K.moved hW.alike hK, hC.here hS hU hW hA⟩⟩ rfl rfl hz rfl (lv_room hw) hd hf) hS (fun q _ h => hA q h) (fun q h => hA q h) (fun q _ h => hA q h) (fun E ce q9 u t H1 locs1 ht hvm hw9 hB hz1 hk1 hS1 h1 h2 h3 => kx hB.1 hw9 H1 locs1 (by rw [← ht]; exact hB.2) hS1 hk1 hz1 ce q9 h1 h2 h3) (fun r u t H1 locs1 ht hvm hw9 hB hz1 hk1 hS1 => by
    obtain ⟨e1, rfl⟩ := hw9
    exact k e1 H1 locs1 (by rw [← ht]; exact hB) hS1 hk1 hz1)

def f_X5_addFlexible (a0 : Int32) (a1 : Int64) (a2 : Int64) (Md : Nat → Int64) : (Nat → Int64) := (if (Md a0.toNatClampNeg) = (0 : Int64) then (if a2 = (0 : Int64) then (vp_updL (vp_updL Md a0.toNatClampNeg ((Md a0.toNatClampNeg) + a1)) (a0 + (1 : Int32)).toNatClampNeg (0 : Int64)) else (if a2 ≤ (0 : Int64) then Md else (if a1 = (0 : Int64) then Md else (vp_updL (vp_updL Md a0.toNatClampNeg a1) (a0 + (1 : Int32)).toNatClampNeg a2)))) else (if a2 = (Md (a0 + (1 : Int32)).toNatClampNeg) then (vp_updL (vp_updL Md a0.toNatClampNeg ((Md a0.toNatClampNeg) + a1)) (a0 + (1 : Int32)).toNatClampNeg (Md (a0 + (1 : Int32)).toNatClampNeg)) else (if a2 ≤ (Md (a0 + (1 : Int32)).toNatClampNeg) then Md else (if a1 = (0 : Int64) then Md else (vp_updL (vp_updL Md a0.toNatClampNeg a1) (a0 + (1 : Int32)).toNatClampNeg a2)))))
def S_X5_addFlexible (a0 : Int32) (a1 : Int64) (a2 : Int64) (Md : Nat → Int64) : Prop := (vp_in a0 21) ∧ (((Md a0.toNatClampNeg) = (0 : Int64) → ((a2 = (0 : Int64) → ((vp_in a0 21) ∧ ((vp_in a0 21) ∧ ((vp_in (a0 + (1 : Int32)) 21) ∧ (True))))) ∧ (¬ a2 = (0 : Int64) → ((a2 ≤ (0 : Int64) → (True)) ∧ (¬ a2 ≤ (0 : Int64) → ((a1 = (0 : Int64) → (True)) ∧ (¬ a1 = (0 : Int64) → ((vp_in a0 21) ∧ ((vp_in (a0 + (1 : Int32)) 21) ∧ (True)))))))))) ∧ (¬ (Md a0.toNatClampNeg) = (0 : Int64) → ((vp_in (a0 + (1 : Int32)) 21) ∧ ((a2 = (Md (a0 + (1 : Int32)).toNatClampNeg) → ((vp_in a0 21) ∧ ((vp_in a0 21) ∧ ((vp_in (a0 + (1 : Int32)) 21) ∧ (True))))) ∧ (¬ a2 = (Md (a0 + (1 : Int32)).toNatClampNeg) → ((a2 ≤ (Md (a0 + (1 : Int32)).toNatClampNeg) → (True)) ∧ (¬ a2 ≤ (Md (a0 + (1 : Int32)).toNatClampNeg) → ((a1 = (0 : Int64) → (True)) ∧ (¬ a1 = (0 : Int64) → ((vp_in a0 21) ∧ ((vp_in (a0 + (1 : Int32)) 21) ∧ (True))))))))))))
set_option maxHeartbeats 4000000 in
set_option maxRecDepth 100000 in
theorem c_X5_addFlexible (l : Launch) (dC : Nat → ClassId) (dI : Nat → Nat → Nat) (cI cJ : ClassId) (ad : Nat → Nat) (hi : fI 23 ad) (sz : Nat) (Bc : Nat → Int64) (Bl : Nat → Int32) (Pk : Nat → Int32) (Pr : Nat → Int32) (Pl : Nat → Int32) (Pc : Nat → Int64) (Pm : Int32) (Gf : Nat → Int32) (Gt : Nat → Int32) (Gx : Nat → Int32) (Gd : Int32) (Gm : Int32) (Ek : Nat → Int32) (Er : Nat → Int32) (Ea : Nat → Int32) (Ex : Nat → Int32) (Em : Int32) (Eb : Int32) (Et : Int32) (Ss : Nat → Int32) (Sm : Int32) (Wg : Nat → Int64) (Wr : Nat → Int64) (Md : Nat → Int64) (a0 : Int32) (a1 : Int64) (a2 : Int64) (hs : S_X5_addFlexible a0 a1 a2 Md) : Met l yX5_addFlexible (mW yX5_addFlexible cX5_addFlexible 8 none) { frames := 0, cells := 0, slots := 0, locals := 0 } (va_Pc [.ref (ad 0), .int a0, .long a1, .long a2] (fun U => U.heap.size = sz ∧ va_P (dC, dI) vwCl (wC ad cI cJ Bc Bl Pk Pr Pl Pc Pm Gf Gt Gx Gd Gm Ek Er Ea Ex Em Eb Et Ss Sm Wg Wr Md) U.heap ∧ va_K (dC, dI) vwCl [(cI, .int), (cJ, .long)] U)) (va_Qv (fun (_ : Unit) => True) (fun _ t => va_P (dC, dI) vwCl (wC ad cI cJ Bc Bl Pk Pr Pl Pc Pm Gf Gt Gx Gd Gm Ek Er Ea Ex Em Eb Et Ss Sm Wg Wr (f_X5_addFlexible a0 a1 a2 Md)) t.heap) (fA 23 ad sz)) 0 0 (fA 23 ad sz) := by
  refine Met.ofW (cc := cX5_addFlexible) (maxL := 8) (ret := none) (by decide) rfl ?_
  intro p e s m args below meth c s₁ B hml hv
  obtain ⟨rfl, hsz, hP, hK⟩ := hv
  have hx := B.exec
  have hb := B.bytes
  have hr := B.returns
  have hts := mW_hts (atoms_spec (ws := (mW yX5_addFlexible cX5_addFlexible 8 none)) B.pre)
  have hown : s.vm.findClass RX5 = some m.cls := findClass_of_methodNamed B.named
  have hlocks := B.notSynchronized
  subst hsz
  have hA : ∀ (n : Nat) (q : Nat), s.heap.size ≤ n → n ≤ q → fA 23 ad s.heap.size q := fun n q h1 h2 => Or.inr (Nat.le_trans h1 h2)
  have hS : va_S (fA 23 ad s.heap.size) s.heap s.heap [] := va_S.rf
  have hA : ∀ q, s.heap.size ≤ q → (fA 23 ad s.heap.size) q := fun q h => Or.inr h
  unfold S_X5_addFlexible at hs
  have hl := lv_entry ([.ref (ad 0), .int a0, .long a1, .long a2]) (n := 8) (Nat.le_of_ble_eq_true rfl)
  rw [lg_entry_eq]
  generalize (lg_sl ([.ref (ad 0), .int a0, .long a1, .long a2]) ++ List.replicate (8 - (lg_sl ([.ref (ad 0), .int a0, .long a1, .long a2])).length) Slot.unset).toArray = ls at hl ⊢
  have hl : lv_has ls 8 [(0, .ref (ad 0)), (1, .int a0), (2, .long a1), (4, .long a2)] := hl
  refine W_gen (fun Q9 hQ9 => ?_)
  refine lv_aload_n hx hb dX5_addFlexible_0 rfl (lv_at hl 0 rfl) ?_
  refine va_get (D := (dC, dI)) (ci := 7) (v := .ref (ad 22)) (C := RX5) (T := TX5) (N := 8) hx hb hts iW_X5 hown hK hP 0 rfl rfl 7 (by decide) (hts _ mF_RX5_51) (fun _ h9 => h9) rfl dX5_addFlexible_1 ?_
  refine lv_iload_n hx hb dX5_addFlexible_4 rfl (lv_at hl 1 rfl) ?_
  obtain ⟨h1, hs⟩ := hs
  refine va_lald hx hb hK hP 22 1 rfl rfl h1 dX5_addFlexible_5 ?_
  refine lv_lconst (v := 0) hx hb dX5_addFlexible_6 (by decide) ?_
  refine W.lcmp hx hb dX5_addFlexible_7 ?_
  refine lv_if_ne (tgt := 15) hx hb dX5_addFlexible_8 (by decide) (fun c2 => ?_) (fun c2 => ?_)
  · have c2 : ¬ (Md a0.toNatClampNeg) = (0 : Int64) := fun z => c2 (lc_eq.mpr z)
    have hs := hs.2 c2
    refine lv_aload_n hx hb dX5_addFlexible_15 rfl (lv_at hl 0 rfl) ?_
    refine va_get (D := (dC, dI)) (ci := 7) (v := .ref (ad 22)) (C := RX5) (T := TX5) (N := 8) hx hb hts iW_X5 hown hK hP 0 rfl rfl 7 (by decide) (hts _ mF_RX5_51) (fun _ h9 => h9) rfl dX5_addFlexible_16 ?_
    refine lv_iload_n hx hb dX5_addFlexible_19 rfl (lv_at hl 1 rfl) ?_
    refine lv_iconst (v := 1) hx hb dX5_addFlexible_20 (by decide) ?_
    refine lv_iadd hx hb dX5_addFlexible_21 ?_
    obtain ⟨h3, hs⟩ := hs
    refine va_lald hx hb hK hP 22 1 rfl rfl h3 dX5_addFlexible_22 ?_
    refine lv_lstore (lv' := [(6, .long (Md (a0 + (1 : Int32)).toNatClampNeg)), (0, .ref (ad 0)), (1, .int a0), (2, .long a1), (4, .long a2)]) hx hb dX5_addFlexible_23 hl (by decide) rfl (fun ls hl => ?_)
    refine lv_lload hx hb dX5_addFlexible_25 (lv_at hl 4 rfl) ?_
    refine lv_lload hx hb dX5_addFlexible_27 (lv_at hl 0 rfl) ?_
    refine W.lcmp hx hb dX5_addFlexible_29 ?_
    refine lv_if_ne (tgt := 56) hx hb dX5_addFlexible_30 (by decide) (fun c4 => ?_) (fun c4 => ?_)
    · have c4 : ¬ a2 = (Md (a0 + (1 : Int32)).toNatClampNeg) := fun z => c4 (lc_eq.mpr z)
      have hs := hs.2 c4
      refine lv_lload hx hb dX5_addFlexible_56 (lv_at hl 4 rfl) ?_
      refine lv_lload hx hb dX5_addFlexible_58 (lv_at hl 0 rfl) ?_
      refine W.lcmp hx hb dX5_addFlexible_60 ?_
      refine lv_if_le (tgt := 87) hx hb dX5_addFlexible_61 (by decide) (fun c5 => ?_) (fun c5 => ?_)
      · have c5 : a2 ≤ (Md (a0 + (1 : Int32)).toNatClampNeg) := lc_le.mp c5
        have hs := hs.1 c5
        rw [hQ9]
        have hf : f_X5_addFlexible a0 a1 a2 Md = Md := by simp only [f_X5_addFlexible, if_neg c2, if_neg c4, if_pos c5]
        exact W.vret hx hb hr (fun t ht hW => ⟨⟨(), rfl, True.intro, by rw [hf]; show va_P (dC, dI) vwCl _ t.heap; rw [ht]; exact hP⟩, hS.F ht⟩) hS.2.2 dX5_addFlexible_87
      · have c5 : ¬ a2 ≤ (Md (a0 + (1 : Int32)).toNatClampNeg) := fun z => c5 (lc_le.mpr z)
        have hs := hs.2 c5
        refine lv_lload_n hx hb dX5_addFlexible_64 rfl (lv_at hl 3 rfl) ?_
        refine lv_lconst (v := 0) hx hb dX5_addFlexible_65 (by decide) ?_
        refine W.lcmp hx hb dX5_addFlexible_66 ?_
        refine lv_if_eq (tgt := 87) hx hb dX5_addFlexible_67 (by decide) (fun c6 => ?_) (fun c6 => ?_)
        · have c6 : a1 = (0 : Int64) := lc_eq.mp c6
          have hs := hs.1 c6
          rw [hQ9]
          have hf : f_X5_addFlexible a0 a1 a2 Md = Md := by simp only [f_X5_addFlexible, if_neg c2, if_neg c4, if_neg c5, if_pos c6]
          exact W.vret hx hb hr (fun t ht hW => ⟨⟨(), rfl, True.intro, by rw [hf]; show va_P (dC, dI) vwCl _ t.heap; rw [ht]; exact hP⟩, hS.F ht⟩) hS.2.2 dX5_addFlexible_87
        · have c6 : ¬ a1 = (0 : Int64) := fun z => c6 (lc_eq.mpr z)
          have hs := hs.2 c6
          refine lv_aload_n hx hb dX5_addFlexible_70 rfl (lv_at hl 1 rfl) ?_
          refine va_get (D := (dC, dI)) (ci := 7) (v := .ref (ad 22)) (C := RX5) (T := TX5) (N := 8) hx hb hts iW_X5 hown hK hP 0 rfl rfl 7 (by decide) (hts _ mF_RX5_51) (fun _ h9 => h9) rfl dX5_addFlexible_71 ?_
          refine lv_iload_n hx hb dX5_addFlexible_74 rfl (lv_at hl 2 rfl) ?_
          refine lv_lload_n hx hb dX5_addFlexible_75 rfl (lv_at hl 3 rfl) ?_
          obtain ⟨h7, hs⟩ := hs
          refine va_last hx hb hK hP (fA_D hi rfl) hS 22 1 rfl rfl h7 dX5_addFlexible_76 (fun H locs hP _ hS => ?_)
          have hP : va_P (dC, dI) vwCl (wC ad cI cJ Bc Bl Pk Pr Pl Pc Pm Gf Gt Gx Gd Gm Ek Er Ea Ex Em Eb Et Ss Sm Wg Wr (vp_updL Md a0.toNatClampNeg a1)) H := hP
          refine lv_aload_n hx hb dX5_addFlexible_77 rfl (lv_at hl 1 rfl) ?_
          refine va_get (D := (dC, dI)) (ci := 7) (v := .ref (ad 22)) (C := RX5) (T := TX5) (N := 8) hx hb hts iW_X5 hown hK hP 0 rfl rfl 7 (by decide) (hts _ mF_RX5_51) (fun _ h9 => h9) rfl dX5_addFlexible_78 ?_
          refine lv_iload_n hx hb dX5_addFlexible_81 rfl (lv_at hl 2 rfl) ?_
          refine lv_iconst (v := 1) hx hb dX5_addFlexible_82 (by decide) ?_
          refine lv_iadd hx hb dX5_addFlexible_83 ?_
          refine lv_lload hx hb dX5_addFlexible_84 (lv_at hl 4 rfl) ?_
          obtain ⟨h8, hs⟩ := hs
          refine va_last hx hb hK hP (fA_D hi rfl) hS 22 1 rfl rfl h8 dX5_addFlexible_86 (fun H locs hP _ hS => ?_)
          have hP : va_P (dC, dI) vwCl (wC ad cI cJ Bc Bl Pk Pr Pl Pc Pm Gf Gt Gx Gd Gm Ek Er Ea Ex Em Eb Et Ss Sm Wg Wr (vp_updL (vp_updL Md a0.toNatClampNeg a1) (a0 + (1 : Int32)).toNatClampNeg a2)) H := hP
          rw [hQ9]
          have hf : f_X5_addFlexible a0 a1 a2 Md = (vp_updL (vp_updL Md a0.toNatClampNeg a1) (a0 + (1 : Int32)).toNatClampNeg a2) := by simp only [f_X5_addFlexible, if_neg c2, if_neg c4, if_neg c5, if_neg c6]
          exact W.vret hx hb hr (fun t ht hW => ⟨⟨(), rfl, True.intro, by rw [hf]; show va_P (dC, dI) vwCl _ t.heap; rw [ht]; exact hP⟩, hS.F ht⟩) hS.2.2 dX5_addFlexible_87
    · have c4 : a2 = (Md (a0 + (1 : Int32)).toNatClampNeg) := lc_eq.mp c4
      have hs := hs.1 c4
      refine lv_aload_n hx hb dX5_addFlexible_33 rfl (lv_at hl 1 rfl) ?_
      refine va_get (D := (dC, dI)) (ci := 7) (v := .ref (ad 22)) (C := RX5) (T := TX5) (N := 8) hx hb hts iW_X5 hown hK hP 0 rfl rfl 7 (by decide) (hts _ mF_RX5_51) (fun _ h9 => h9) rfl dX5_addFlexible_34 ?_
      refine lv_iload_n hx hb dX5_addFlexible_37 rfl (lv_at hl 2 rfl) ?_
      refine lv_dup2_11 hx hb dX5_addFlexible_38 rfl rfl ?_
      obtain ⟨h9, hs⟩ := hs
      refine va_lald hx hb hK hP 22 1 rfl rfl h9 dX5_addFlexible_39 ?_
      refine lv_lload_n hx hb dX5_addFlexible_40 rfl (lv_at hl 3 rfl) ?_
      refine lv_ladd hx hb dX5_addFlexible_41 ?_
      obtain ⟨h10, hs⟩ := hs
      refine va_last hx hb hK hP (fA_D hi rfl) hS 22 1 rfl rfl h10 dX5_addFlexible_42 (fun H locs hP _ hS => ?_)
      have hP : va_P (dC, dI) vwCl (wC ad cI cJ Bc Bl Pk Pr Pl Pc Pm Gf Gt Gx Gd Gm Ek Er Ea Ex Em Eb Et Ss Sm Wg Wr (vp_updL Md a0.toNatClampNeg ((Md a0.toNatClampNeg) + a1))) H := hP
      refine lv_aload_n hx hb dX5_addFlexible_43 rfl (lv_at hl 1 rfl) ?_
      refine va_get (D := (dC, dI)) (ci := 7) (v := .ref (ad 22)) (C := RX5) (T := TX5) (N := 8) hx hb hts iW_X5 hown hK hP 0 rfl rfl 7 (by decide) (hts _ mF_RX5_51) (fun _ h9 => h9) rfl dX5_addFlexible_44 ?_
      refine lv_iload_n hx hb dX5_addFlexible_47 rfl (lv_at hl 2 rfl) ?_
      refine lv_iconst (v := 1) hx hb dX5_addFlexible_48 (by decide) ?_
      refine lv_iadd hx hb dX5_addFlexible_49 ?_
      refine lv_lload hx hb dX5_addFlexible_50 (lv_at hl 0 rfl) ?_
      obtain ⟨h11, hs⟩ := hs
      refine va_last hx hb hK hP (fA_D hi rfl) hS 22 1 rfl rfl h11 dX5_addFlexible_52 (fun H locs hP _ hS => ?_)
      have hP : va_P (dC, dI) vwCl (wC ad cI cJ Bc Bl Pk Pr Pl Pc Pm Gf Gt Gx Gd Gm Ek Er Ea Ex Em Eb Et Ss Sm Wg Wr (vp_updL (vp_updL Md a0.toNatClampNeg ((Md a0.toNatClampNeg) + a1)) (a0 + (1 : Int32)).toNatClampNeg (Md (a0 + (1 : Int32)).toNatClampNeg))) H := hP
      refine lv_goto (tgt := 87) hx hb dX5_addFlexible_53 (by decide) ?_
      rw [hQ9]
      have hf : f_X5_addFlexible a0 a1 a2 Md = (vp_updL (vp_updL Md a0.toNatClampNeg ((Md a0.toNatClampNeg) + a1)) (a0 + (1 : Int32)).toNatClampNeg (Md (a0 + (1 : Int32)).toNatClampNeg)) := by simp only [f_X5_addFlexible, if_neg c2, if_pos c4]
      exact W.vret hx hb hr (fun t ht hW => ⟨⟨(), rfl, True.intro, by rw [hf]; show va_P (dC, dI) vwCl _ t.heap; rw [ht]; exact hP⟩, hS.F ht⟩) hS.2.2 dX5_addFlexible_87
  · have c2 : (Md a0.toNatClampNeg) = (0 : Int64) := lc_eq.mp c2
    have hs := hs.1 c2
    refine lv_lconst (v := 0) hx hb dX5_addFlexible_11 (by decide) ?_
    refine lv_goto (tgt := 23) hx hb dX5_addFlexible_12 (by decide) ?_
    refine lv_lstore (lv' := [(6, .long (0 : Int64)), (0, .ref (ad 0)), (1, .int a0), (2, .long a1), (4, .long a2)]) hx hb dX5_addFlexible_23 hl (by decide) rfl (fun ls hl => ?_)
    refine lv_lload hx hb dX5_addFlexible_25 (lv_at hl 4 rfl) ?_
    refine lv_lload hx hb dX5_addFlexible_27 (lv_at hl 0 rfl) ?_
    refine W.lcmp hx hb dX5_addFlexible_29 ?_
    refine lv_if_ne (tgt := 56) hx hb dX5_addFlexible_30 (by decide) (fun c12 => ?_) (fun c12 => ?_)
    · have c12 : ¬ a2 = (0 : Int64) := fun z => c12 (lc_eq.mpr z)
      have hs := hs.2 c12
      refine lv_lload hx hb dX5_addFlexible_56 (lv_at hl 4 rfl) ?_
      refine lv_lload hx hb dX5_addFlexible_58 (lv_at hl 0 rfl) ?_
      refine W.lcmp hx hb dX5_addFlexible_60 ?_
      refine lv_if_le (tgt := 87) hx hb dX5_addFlexible_61 (by decide) (fun c13 => ?_) (fun c13 => ?_)
      · have c13 : a2 ≤ (0 : Int64) := lc_le.mp c13
        have hs := hs.1 c13
        rw [hQ9]
        have hf : f_X5_addFlexible a0 a1 a2 Md = Md := by simp only [f_X5_addFlexible, if_pos c2, if_neg c12, if_pos c13]
        exact W.vret hx hb hr (fun t ht hW => ⟨⟨(), rfl, True.intro, by rw [hf]; show va_P (dC, dI) vwCl _ t.heap; rw [ht]; exact hP⟩, hS.F ht⟩) hS.2.2 dX5_addFlexible_87
      · have c13 : ¬ a2 ≤ (0 : Int64) := fun z => c13 (lc_le.mpr z)
        have hs := hs.2 c13
        refine lv_lload_n hx hb dX5_addFlexible_64 rfl (lv_at hl 3 rfl) ?_
        refine lv_lconst (v := 0) hx hb dX5_addFlexible_65 (by decide) ?_
        refine W.lcmp hx hb dX5_addFlexible_66 ?_
        refine lv_if_eq (tgt := 87) hx hb dX5_addFlexible_67 (by decide) (fun c14 => ?_) (fun c14 => ?_)
        · have c14 : a1 = (0 : Int64) := lc_eq.mp c14
          have hs := hs.1 c14
          rw [hQ9]
          have hf : f_X5_addFlexible a0 a1 a2 Md = Md := by simp only [f_X5_addFlexible, if_pos c2, if_neg c12, if_neg c13, if_pos c14]
          exact W.vret hx hb hr (fun t ht hW => ⟨⟨(), rfl, True.intro, by rw [hf]; show va_P (dC, dI) vwCl _ t.heap; rw [ht]; exact hP⟩, hS.F ht⟩) hS.2.2 dX5_addFlexible_87
        · have c14 : ¬ a1 = (0 : Int64) := fun z => c14 (lc_eq.mpr z)
          have hs := hs.2 c14
          refine lv_aload_n hx hb dX5_addFlexible_70 rfl (lv_at hl 1 rfl) ?_
          refine va_get (D := (dC, dI)) (ci := 7) (v := .ref (ad 22)) (C := RX5) (T := TX5) (N := 8) hx hb hts iW_X5 hown hK hP 0 rfl rfl 7 (by decide) (hts _ mF_RX5_51) (fun _ h9 => h9) rfl dX5_addFlexible_71 ?_
          refine lv_iload_n hx hb dX5_addFlexible_74 rfl (lv_at hl 2 rfl) ?_
          refine lv_lload_n hx hb dX5_addFlexible_75 rfl (lv_at hl 3 rfl) ?_
          obtain ⟨h15, hs⟩ := hs
          refine va_last hx hb hK hP (fA_D hi rfl) hS 22 1 rfl rfl h15 dX5_addFlexible_76 (fun H locs hP _ hS => ?_)
          have hP : va_P (dC, dI) vwCl (wC ad cI cJ Bc Bl Pk Pr Pl Pc Pm Gf Gt Gx Gd Gm Ek Er Ea Ex Em Eb Et Ss Sm Wg Wr (vp_updL Md a0.toNatClampNeg a1)) H := hP
          refine lv_aload_n hx hb dX5_addFlexible_77 rfl (lv_at hl 1 rfl) ?_
          refine va_get (D := (dC, dI)) (ci := 7) (v := .ref (ad 22)) (C := RX5) (T := TX5) (N := 8) hx hb hts iW_X5 hown hK hP 0 rfl rfl 7 (by decide) (hts _ mF_RX5_51) (fun _ h9 => h9) rfl dX5_addFlexible_78 ?_
          refine lv_iload_n hx hb dX5_addFlexible_81 rfl (lv_at hl 2 rfl) ?_
          refine lv_iconst (v := 1) hx hb dX5_addFlexible_82 (by decide) ?_
          refine lv_iadd hx hb dX5_addFlexible_83 ?_
          refine lv_lload hx hb dX5_addFlexible_84 (lv_at hl 4 rfl) ?_
          obtain ⟨h16, hs⟩ := hs
          refine va_last hx hb hK hP (fA_D hi rfl) hS 22 1 rfl rfl h16 dX5_addFlexible_86 (fun H locs hP _ hS => ?_)
          have hP : va_P (dC, dI) vwCl (wC ad cI cJ Bc Bl Pk Pr Pl Pc Pm Gf Gt Gx Gd Gm Ek Er Ea Ex Em Eb Et Ss Sm Wg Wr (vp_updL (vp_updL Md a0.toNatClampNeg a1) (a0 + (1 : Int32)).toNatClampNeg a2)) H := hP
          rw [hQ9]
          have hf : f_X5_addFlexible a0 a1 a2 Md = (vp_updL (vp_updL Md a0.toNatClampNeg a1) (a0 + (1 : Int32)).toNatClampNeg a2) := by simp only [f_X5_addFlexible, if_pos c2, if_neg c12, if_neg c13, if_neg c14]
          exact W.vret hx hb hr (fun t ht hW => ⟨⟨(), rfl, True.intro, by rw [hf]; show va_P (dC, dI) vwCl _ t.heap; rw [ht]; exact hP⟩, hS.F ht⟩) hS.2.2 dX5_addFlexible_87
    · have c12 : a2 = (0 : Int64) := lc_eq.mp c12
      have hs := hs.1 c12
      refine lv_aload_n hx hb dX5_addFlexible_33 rfl (lv_at hl 1 rfl) ?_
      refine va_get (D := (dC, dI)) (ci := 7) (v := .ref (ad 22)) (C := RX5) (T := TX5) (N := 8) hx hb hts iW_X5 hown hK hP 0 rfl rfl 7 (by decide) (hts _ mF_RX5_51) (fun _ h9 => h9) rfl dX5_addFlexible_34 ?_
      refine lv_iload_n hx hb dX5_addFlexible_37 rfl (lv_at hl 2 rfl) ?_
      refine lv_dup2_11 hx hb dX5_addFlexible_38 rfl rfl ?_
      obtain ⟨h17, hs⟩ := hs
      refine va_lald hx hb hK hP 22 1 rfl rfl h17 dX5_addFlexible_39 ?_
      refine lv_lload_n hx hb dX5_addFlexible_40 rfl (lv_at hl 3 rfl) ?_
      refine lv_ladd hx hb dX5_addFlexible_41 ?_
      obtain ⟨h18, hs⟩ := hs
      refine va_last hx hb hK hP (fA_D hi rfl) hS 22 1 rfl rfl h18 dX5_addFlexible_42 (fun H locs hP _ hS => ?_)
      have hP : va_P (dC, dI) vwCl (wC ad cI cJ Bc Bl Pk Pr Pl Pc Pm Gf Gt Gx Gd Gm Ek Er Ea Ex Em Eb Et Ss Sm Wg Wr (vp_updL Md a0.toNatClampNeg ((Md a0.toNatClampNeg) + a1))) H := hP
      refine lv_aload_n hx hb dX5_addFlexible_43 rfl (lv_at hl 1 rfl) ?_
      refine va_get (D := (dC, dI)) (ci := 7) (v := .ref (ad 22)) (C := RX5) (T := TX5) (N := 8) hx hb hts iW_X5 hown hK hP 0 rfl rfl 7 (by decide) (hts _ mF_RX5_51) (fun _ h9 => h9) rfl dX5_addFlexible_44 ?_
      refine lv_iload_n hx hb dX5_addFlexible_47 rfl (lv_at hl 2 rfl) ?_
      refine lv_iconst (v := 1) hx hb dX5_addFlexible_48 (by decide) ?_
      refine lv_iadd hx hb dX5_addFlexible_49 ?_
      refine lv_lload hx hb dX5_addFlexible_50 (lv_at hl 0 rfl) ?_
      obtain ⟨h19, hs⟩ := hs
      refine va_last hx hb hK hP (fA_D hi rfl) hS 22 1 rfl rfl h19 dX5_addFlexible_52 (fun H locs hP _ hS => ?_)
      have hP : va_P (dC, dI) vwCl (wC ad cI cJ Bc Bl Pk Pr Pl Pc Pm Gf Gt Gx Gd Gm Ek Er Ea Ex Em Eb Et Ss Sm Wg Wr (vp_updL (vp_updL Md a0.toNatClampNeg ((Md a0.toNatClampNeg) + a1)) (a0 + (1 : Int32)).toNatClampNeg (0 : Int64))) H := hP
      refine lv_goto (tgt := 87) hx hb dX5_addFlexible_53 (by decide) ?_
      rw [hQ9]
      have hf : f_X5_addFlexible a0 a1 a2 Md = (vp_updL (vp_updL Md a0.toNatClampNeg ((Md a0.toNatClampNeg) + a1)) (a0 + (1 : Int32)).toNatClampNeg (0 : Int64)) := by simp only [f_X5_addFlexible, if_pos c2, if_pos c12]
      exact W.vret hx hb hr (fun t ht hW => ⟨⟨(), rfl, True.intro, by rw [hf]; show va_P (dC, dI) vwCl _ t.heap; rw [ht]; exact hP⟩, hS.F ht⟩) hS.2.2 dX5_addFlexible_87
theorem q_X5_addFlexible {p : Program} {l : Launch} {e : Env} {R : Room} {s : State} {m : MethodId} {args : Array Value} {below : List Frame} {meth : Method} {c : Code} {H : Heap} {locs : List Loc} {cells slots : Nat} {Q : State → Prop} {pc : Nat} {ls : Array Slot} {rest : List Value} {cc : ByteArray} {nL idx : Nat} {own : String} {A0 : Nat → Prop} {dC : Nat → ClassId} {dI : Nat → Nat → Nat} {cI cJ : ClassId} {ad : Nat → Nat} {Bc : Nat → Int64} {Bl : Nat → Int32} {Pk : Nat → Int32} {Pr : Nat → Int32} {Pl : Nat → Int32} {Pc : Nat → Int64} {Pm : Int32} {Gf : Nat → Int32} {Gt : Nat → Int32} {Gx : Nat → Int32} {Gd : Int32} {Gm : Int32} {Ek : Nat → Int32} {Er : Nat → Int32} {Ea : Nat → Int32} {Ex : Nat → Int32} {Em : Int32} {Eb : Int32} {Et : Int32} {Ss : Nat → Int32} {Sm : Int32} {Wg : Nat → Int64} {Wr : Nat → Int64} {Md : Nat → Int64} (hx : p.tables.exec = Jvm.exec) (hb : c.code = cc) (hml : c.maxLocals = nL) (hown : s.vm.findClass own = some m.cls) (hts : ∀ w ∈ bigW, w.before args s = true) (hlk : Cond.methodLink own idx yX5_addFlexible ∈ bigW) (hR : 1 ≤ R.frames ∧ 27 ≤ R.locals) (hf : cells + 0 ≤ R.cells ∧ slots + 0 ≤ R.slots) (hz : ls.size = nL) (hw : (rest.map fun v => v.category).sum ≤ 8) (hS : va_S A0 s.heap H locs) (hd : decode cc pc = .ok (.invokevirtual idx, 3)) (hA : ∀ q, fA 23 ad H.size q → A0 q) (hi : fI 23 ad) (hK : va_K (dC, dI) vwCl [(cI, .int), (cJ, .long)] s) (hP : va_P (dC, dI) vwCl (wC ad cI cJ Bc Bl Pk Pr Pl Pc Pm Gf Gt Gx Gd Gm Ek Er Ea Ex Em Eb Et Ss Sm Wg Wr Md) H) (a0 : Int32) (a1 : Int64) (a2 : Int64) (hs : S_X5_addFlexible a0 a1 a2 Md)  (u : (Nat → Int64)) (hu : u = f_X5_addFlexible a0 a1 a2 Md) (k : ∀ (H1 : Heap) (locs1 : List Loc), va_P (dC, dI) vwCl (wC ad cI cJ Bc Bl Pk Pr Pl Pc Pm Gf Gt Gx Gd Gm Ek Er Ea Ex Em Eb Et Ss Sm Wg Wr u) H1 → va_S A0 s.heap H1 locs1 → W p l e R s m args below meth c H1 locs1 (cells + 0) (slots + 0) Q (F0 m (pc + 3) ls (rest))) : W p l e R s m args below meth c H locs cells slots Q (F0 m pc ls (.long a2 :: .long a1 :: .int a0 :: .ref (ad 0) :: rest)) := by
  subst hu
  exact va_callv (va_runV (As := [.int a0, .long a1, .long a2]) (rest := rest) ⟨hx, hb, hml, hown, hts⟩ (c_X5_addFlexible l dC dI cI cJ ad hi H.size Bc Bl Pk Pr Pl Pc Pm Gf Gt Gx Gd Gm Ek Er Ea Ex Em Eb Et Ss Sm Wg Wr Md a0 a1 a2 hs) (kV 3 hts hlk mI_X5_addFlexible mN_RX5 mY_X5_addFlexible mV_X5_addFlexible rfl rfl (by decide +kernel) hR) ⟨fun a U g mk q => ⟨q.1, q.2.1, q.2.2.1, va_K.moved (u := U) (U := U.calling g mk a) (Vm.Alike.refl U.vm) q.2.2.2⟩, va_recv hK hP (ci := 7) (q0 := 0) rfl rfl, fun U hU hW => ⟨rfl, by rw [hU], by rw [hU]; exact hP, va_K.moved hW.alike hK⟩⟩ rfl rfl hz rfl (lv_room hw) hd hf) hS (fun q _ h => hA q h) (fun q h => hA q h) (fun u t H1 locs1 ht hvm hw9 hB hz1 hk1 hS1 => by
    skip
    exact k H1 locs1 (by rw [← ht]; exact hB) hS1)

def f_X5_addGlue (a0 : Int32) (Bc : Nat → Int64) (Md : Nat → Int64) : (Nat → Int64) := (let u7 := f_X5_addFlexible (1 : Int32) (Bc (a0 + (1 : Int32)).toNatClampNeg) (Bc ((a0 + (1 : Int32)) + (1 : Int32)).toNatClampNeg) (vp_updL Md (0 : Int32).toNatClampNeg ((Md (0 : Int32).toNatClampNeg) + (Bc a0.toNatClampNeg))); (let u11 := f_X5_addFlexible (3 : Int32) (Bc (a0 + (3 : Int32)).toNatClampNeg) (Bc ((a0 + (3 : Int32)) + (1 : Int32)).toNatClampNeg) u7; u11))
def S_X5_addGlue (a0 : Int32) (Bc : Nat → Int64) (Md : Nat → Int64) : Prop := (vp_in (0 : Int32) 21) ∧ ((vp_in a0 928) ∧ ((vp_in (0 : Int32) 21) ∧ ((vp_in (a0 + (1 : Int32)) 928) ∧ ((vp_in ((a0 + (1 : Int32)) + (1 : Int32)) 928) ∧ ((S_X5_addFlexible (1 : Int32) (Bc (a0 + (1 : Int32)).toNatClampNeg) (Bc ((a0 + (1 : Int32)) + (1 : Int32)).toNatClampNeg) (vp_updL Md (0 : Int32).toNatClampNeg ((Md (0 : Int32).toNatClampNeg) + (Bc a0.toNatClampNeg)))) ∧ (∀ u7, u7 = f_X5_addFlexible (1 : Int32) (Bc (a0 + (1 : Int32)).toNatClampNeg) (Bc ((a0 + (1 : Int32)) + (1 : Int32)).toNatClampNeg) (vp_updL Md (0 : Int32).toNatClampNeg ((Md (0 : Int32).toNatClampNeg) + (Bc a0.toNatClampNeg))) → ((vp_in (a0 + (3 : Int32)) 928) ∧ ((vp_in ((a0 + (3 : Int32)) + (1 : Int32)) 928) ∧ ((S_X5_addFlexible (3 : Int32) (Bc (a0 + (3 : Int32)).toNatClampNeg) (Bc ((a0 + (3 : Int32)) + (1 : Int32)).toNatClampNeg) u7) ∧ (∀ u11, u11 = f_X5_addFlexible (3 : Int32) (Bc (a0 + (3 : Int32)).toNatClampNeg) (Bc ((a0 + (3 : Int32)) + (1 : Int32)).toNatClampNeg) u7 → (True)))))))))))
set_option maxHeartbeats 4000000 in
set_option maxRecDepth 100000 in
theorem c_X5_addGlue (l : Launch) (dC : Nat → ClassId) (dI : Nat → Nat → Nat) (cI cJ : ClassId) (ad : Nat → Nat) (hi : fI 23 ad) (sz : Nat) (Bc : Nat → Int64) (Bl : Nat → Int32) (Pk : Nat → Int32) (Pr : Nat → Int32) (Pl : Nat → Int32) (Pc : Nat → Int64) (Pm : Int32) (Gf : Nat → Int32) (Gt : Nat → Int32) (Gx : Nat → Int32) (Gd : Int32) (Gm : Int32) (Ek : Nat → Int32) (Er : Nat → Int32) (Ea : Nat → Int32) (Ex : Nat → Int32) (Em : Int32) (Eb : Int32) (Et : Int32) (Ss : Nat → Int32) (Sm : Int32) (Wg : Nat → Int64) (Wr : Nat → Int64) (Md : Nat → Int64) (a0 : Int32) (hs : S_X5_addGlue a0 Bc Md) : Met l yX5_addGlue (mW yX5_addGlue cX5_addGlue 2 none) { frames := 1, cells := 0, slots := 0, locals := 27 } (va_Pc [.ref (ad 0), .int a0] (fun U => U.heap.size = sz ∧ va_P (dC, dI) vwCl (wC ad cI cJ Bc Bl Pk Pr Pl Pc Pm Gf Gt Gx Gd Gm Ek Er Ea Ex Em Eb Et Ss Sm Wg Wr Md) U.heap ∧ va_K (dC, dI) vwCl [(cI, .int), (cJ, .long)] U)) (va_Qv (fun (_ : Unit) => True) (fun _ t => va_P (dC, dI) vwCl (wC ad cI cJ Bc Bl Pk Pr Pl Pc Pm Gf Gt Gx Gd Gm Ek Er Ea Ex Em Eb Et Ss Sm Wg Wr (f_X5_addGlue a0 Bc Md)) t.heap) (fA 23 ad sz)) 0 0 (fA 23 ad sz) := by
  refine Met.ofW (cc := cX5_addGlue) (maxL := 2) (ret := none) (by decide) rfl ?_
  intro p e s m args below meth c s₁ B hml hv
  obtain ⟨rfl, hsz, hP, hK⟩ := hv
  have hx := B.exec
  have hb := B.bytes
  have hr := B.returns
  have hts := mW_hts (atoms_spec (ws := (mW yX5_addGlue cX5_addGlue 2 none)) B.pre)
  have hown : s.vm.findClass RX5 = some m.cls := findClass_of_methodNamed B.named
  have hlocks := B.notSynchronized
  subst hsz
  have hA : ∀ (n : Nat) (q : Nat), s.heap.size ≤ n → n ≤ q → fA 23 ad s.heap.size q := fun n q h1 h2 => Or.inr (Nat.le_trans h1 h2)
  have hS : va_S (fA 23 ad s.heap.size) s.heap s.heap [] := va_S.rf
  have hA : ∀ q, s.heap.size ≤ q → (fA 23 ad s.heap.size) q := fun q h => Or.inr h
  unfold S_X5_addGlue at hs
  have hl := lv_entry ([.ref (ad 0), .int a0]) (n := 2) (Nat.le_of_ble_eq_true rfl)
  rw [lg_entry_eq]
  generalize (lg_sl ([.ref (ad 0), .int a0]) ++ List.replicate (2 - (lg_sl ([.ref (ad 0), .int a0])).length) Slot.unset).toArray = ls at hl ⊢
  have hl : lv_has ls 2 [(0, .ref (ad 0)), (1, .int a0)] := hl
  refine W_gen (fun Q9 hQ9 => ?_)
  refine lv_aload_n hx hb dX5_addGlue_0 rfl (lv_at hl 0 rfl) ?_
  refine va_get (D := (dC, dI)) (ci := 7) (v := .ref (ad 22)) (C := RX5) (T := TX5) (N := 8) hx hb hts iW_X5 hown hK hP 0 rfl rfl 7 (by decide) (hts _ mF_RX5_51) (fun _ h9 => h9) rfl dX5_addGlue_1 ?_
  refine lv_iconst (v := 0) hx hb dX5_addGlue_4 (by decide) ?_
  refine lv_dup2_11 hx hb dX5_addGlue_5 rfl rfl ?_
  obtain ⟨h1, hs⟩ := hs
  refine va_lald hx hb hK hP 22 1 rfl rfl h1 dX5_addGlue_6 ?_
  refine lv_aload_n hx hb dX5_addGlue_7 rfl (lv_at hl 0 rfl) ?_
  refine va_get (D := (dC, dI)) (ci := 7) (v := .ref (ad 1)) (C := RX5) (T := TX5) (N := 8) hx hb hts iW_X5 hown hK hP 0 rfl rfl 0 (by decide) (hts _ mF_RX5_10) (fun _ h9 => h9) rfl dX5_addGlue_8 ?_
  refine va_get (D := (dC, dI)) (ci := 2) (v := .ref (ad 2)) (C := RX0) (T := TX0) (N := 2) hx hb hts iW_X0 hown hK hP 1 rfl rfl 0 (by decide) (hts _ mF_RX5_99) (fun _ h9 => h9) rfl dX5_addGlue_11 ?_
  refine lv_iload_n hx hb dX5_addGlue_14 rfl (lv_at hl 1 rfl) ?_
  obtain ⟨h2, hs⟩ := hs
  refine va_lald hx hb hK hP 2 1 rfl rfl h2 dX5_addGlue_15 ?_
  refine lv_ladd hx hb dX5_addGlue_16 ?_
  obtain ⟨h3, hs⟩ := hs
  refine va_last hx hb hK hP (fA_D hi rfl) hS 22 1 rfl rfl h3 dX5_addGlue_17 (fun H locs hP _ hS => ?_)
  have hP : va_P (dC, dI) vwCl (wC ad cI cJ Bc Bl Pk Pr Pl Pc Pm Gf Gt Gx Gd Gm Ek Er Ea Ex Em Eb Et Ss Sm Wg Wr (vp_updL Md (0 : Int32).toNatClampNeg ((Md (0 : Int32).toNatClampNeg) + (Bc a0.toNatClampNeg)))) H := hP
  refine lv_aload_n hx hb dX5_addGlue_18 rfl (lv_at hl 0 rfl) ?_
  refine lv_iconst (v := 1) hx hb dX5_addGlue_19 (by decide) ?_
  refine lv_aload_n hx hb dX5_addGlue_20 rfl (lv_at hl 0 rfl) ?_
  refine va_get (D := (dC, dI)) (ci := 7) (v := .ref (ad 1)) (C := RX5) (T := TX5) (N := 8) hx hb hts iW_X5 hown hK hP 0 rfl rfl 0 (by decide) (hts _ mF_RX5_10) (fun _ h9 => h9) rfl dX5_addGlue_21 ?_
  refine va_get (D := (dC, dI)) (ci := 2) (v := .ref (ad 2)) (C := RX0) (T := TX0) (N := 2) hx hb hts iW_X0 hown hK hP 1 rfl rfl 0 (by decide) (hts _ mF_RX5_99) (fun _ h9 => h9) rfl dX5_addGlue_24 ?_
  refine lv_iload_n hx hb dX5_addGlue_27 rfl (lv_at hl 1 rfl) ?_
  refine lv_iconst (v := 1) hx hb dX5_addGlue_28 (by decide) ?_
  refine lv_iadd hx hb dX5_addGlue_29 ?_
  obtain ⟨h4, hs⟩ := hs
  refine va_lald hx hb hK hP 2 1 rfl rfl h4 dX5_addGlue_30 ?_
  refine lv_aload_n hx hb dX5_addGlue_31 rfl (lv_at hl 0 rfl) ?_
  refine va_get (D := (dC, dI)) (ci := 7) (v := .ref (ad 1)) (C := RX5) (T := TX5) (N := 8) hx hb hts iW_X5 hown hK hP 0 rfl rfl 0 (by decide) (hts _ mF_RX5_10) (fun _ h9 => h9) rfl dX5_addGlue_32 ?_
  refine va_get (D := (dC, dI)) (ci := 2) (v := .ref (ad 2)) (C := RX0) (T := TX0) (N := 2) hx hb hts iW_X0 hown hK hP 1 rfl rfl 0 (by decide) (hts _ mF_RX5_99) (fun _ h9 => h9) rfl dX5_addGlue_35 ?_
  refine lv_iload_n hx hb dX5_addGlue_38 rfl (lv_at hl 1 rfl) ?_
  refine lv_iconst (v := 1) hx hb dX5_addGlue_39 (by decide) ?_
  refine lv_iadd hx hb dX5_addGlue_40 ?_
  refine lv_iconst (v := 1) hx hb dX5_addGlue_41 (by decide) ?_
  refine lv_iadd hx hb dX5_addGlue_42 ?_
  obtain ⟨h5, hs⟩ := hs
  refine va_lald hx hb hK hP 2 1 rfl rfl h5 dX5_addGlue_43 ?_
  obtain ⟨h6, hs⟩ := hs
  obtain ⟨u7, hu7⟩ : ∃ z, z = f_X5_addFlexible (1 : Int32) (Bc (a0 + (1 : Int32)).toNatClampNeg) (Bc ((a0 + (1 : Int32)) + (1 : Int32)).toNatClampNeg) (vp_updL Md (0 : Int32).toNatClampNeg ((Md (0 : Int32).toNatClampNeg) + (Bc a0.toNatClampNeg))) := ⟨_, rfl⟩
  have hs := hs u7 hu7
  refine q_X5_addFlexible hx hb hml hown hts mM_RX5_288 ⟨Nat.le_of_ble_eq_true rfl, Nat.le_of_ble_eq_true rfl⟩ ⟨Nat.le_of_ble_eq_true rfl, Nat.le_of_ble_eq_true rfl⟩ hl.1 (Nat.le_of_ble_eq_true rfl) hS dX5_addGlue_44 (fun _ h9 => fA_mono hS.1 h9) hi hK hP (1 : Int32) (Bc (a0 + (1 : Int32)).toNatClampNeg) (Bc ((a0 + (1 : Int32)) + (1 : Int32)).toNatClampNeg) h6 u7 hu7 (fun H locs hP hS => ?_)
  refine lv_aload_n hx hb dX5_addGlue_47 rfl (lv_at hl 0 rfl) ?_
  refine lv_iconst (v := 3) hx hb dX5_addGlue_48 (by decide) ?_
  refine lv_aload_n hx hb dX5_addGlue_49 rfl (lv_at hl 0 rfl) ?_
  refine va_get (D := (dC, dI)) (ci := 7) (v := .ref (ad 1)) (C := RX5) (T := TX5) (N := 8) hx hb hts iW_X5 hown hK hP 0 rfl rfl 0 (by decide) (hts _ mF_RX5_10) (fun _ h9 => h9) rfl dX5_addGlue_50 ?_
  refine va_get (D := (dC, dI)) (ci := 2) (v := .ref (ad 2)) (C := RX0) (T := TX0) (N := 2) hx hb hts iW_X0 hown hK hP 1 rfl rfl 0 (by decide) (hts _ mF_RX5_99) (fun _ h9 => h9) rfl dX5_addGlue_53 ?_
  refine lv_iload_n hx hb dX5_addGlue_56 rfl (lv_at hl 1 rfl) ?_
  refine lv_iconst (v := 3) hx hb dX5_addGlue_57 (by decide) ?_
  refine lv_iadd hx hb dX5_addGlue_58 ?_
  obtain ⟨h8, hs⟩ := hs
  refine va_lald hx hb hK hP 2 1 rfl rfl h8 dX5_addGlue_59 ?_
  refine lv_aload_n hx hb dX5_addGlue_60 rfl (lv_at hl 0 rfl) ?_
  refine va_get (D := (dC, dI)) (ci := 7) (v := .ref (ad 1)) (C := RX5) (T := TX5) (N := 8) hx hb hts iW_X5 hown hK hP 0 rfl rfl 0 (by decide) (hts _ mF_RX5_10) (fun _ h9 => h9) rfl dX5_addGlue_61 ?_
  refine va_get (D := (dC, dI)) (ci := 2) (v := .ref (ad 2)) (C := RX0) (T := TX0) (N := 2) hx hb hts iW_X0 hown hK hP 1 rfl rfl 0 (by decide) (hts _ mF_RX5_99) (fun _ h9 => h9) rfl dX5_addGlue_64 ?_
  refine lv_iload_n hx hb dX5_addGlue_67 rfl (lv_at hl 1 rfl) ?_
  refine lv_iconst (v := 3) hx hb dX5_addGlue_68 (by decide) ?_
  refine lv_iadd hx hb dX5_addGlue_69 ?_
  refine lv_iconst (v := 1) hx hb dX5_addGlue_70 (by decide) ?_
  refine lv_iadd hx hb dX5_addGlue_71 ?_
  obtain ⟨h9, hs⟩ := hs
  refine va_lald hx hb hK hP 2 1 rfl rfl h9 dX5_addGlue_72 ?_
  obtain ⟨h10, hs⟩ := hs
  obtain ⟨u11, hu11⟩ : ∃ z, z = f_X5_addFlexible (3 : Int32) (Bc (a0 + (3 : Int32)).toNatClampNeg) (Bc ((a0 + (3 : Int32)) + (1 : Int32)).toNatClampNeg) u7 := ⟨_, rfl⟩
  have hs := hs u11 hu11
  refine q_X5_addFlexible hx hb hml hown hts mM_RX5_288 ⟨Nat.le_of_ble_eq_true rfl, Nat.le_of_ble_eq_true rfl⟩ ⟨Nat.le_of_ble_eq_true rfl, Nat.le_of_ble_eq_true rfl⟩ hl.1 (Nat.le_of_ble_eq_true rfl) hS dX5_addGlue_73 (fun _ h9 => fA_mono hS.1 h9) hi hK hP (3 : Int32) (Bc (a0 + (3 : Int32)).toNatClampNeg) (Bc ((a0 + (3 : Int32)) + (1 : Int32)).toNatClampNeg) h10 u11 hu11 (fun H locs hP hS => ?_)
  rw [hQ9]
  have hf : f_X5_addGlue a0 Bc Md = u11 := by simp only [f_X5_addGlue, ← hu7, ← hu11]
  exact W.vret hx hb hr (fun t ht hW => ⟨⟨(), rfl, True.intro, by rw [hf]; show va_P (dC, dI) vwCl _ t.heap; rw [ht]; exact hP⟩, hS.F ht⟩) hS.2.2 dX5_addGlue_76
theorem q_X5_addGlue {p : Program} {l : Launch} {e : Env} {R : Room} {s : State} {m : MethodId} {args : Array Value} {below : List Frame} {meth : Method} {c : Code} {H : Heap} {locs : List Loc} {cells slots : Nat} {Q : State → Prop} {pc : Nat} {ls : Array Slot} {rest : List Value} {cc : ByteArray} {nL idx : Nat} {own : String} {A0 : Nat → Prop} {dC : Nat → ClassId} {dI : Nat → Nat → Nat} {cI cJ : ClassId} {ad : Nat → Nat} {Bc : Nat → Int64} {Bl : Nat → Int32} {Pk : Nat → Int32} {Pr : Nat → Int32} {Pl : Nat → Int32} {Pc : Nat → Int64} {Pm : Int32} {Gf : Nat → Int32} {Gt : Nat → Int32} {Gx : Nat → Int32} {Gd : Int32} {Gm : Int32} {Ek : Nat → Int32} {Er : Nat → Int32} {Ea : Nat → Int32} {Ex : Nat → Int32} {Em : Int32} {Eb : Int32} {Et : Int32} {Ss : Nat → Int32} {Sm : Int32} {Wg : Nat → Int64} {Wr : Nat → Int64} {Md : Nat → Int64} (hx : p.tables.exec = Jvm.exec) (hb : c.code = cc) (hml : c.maxLocals = nL) (hown : s.vm.findClass own = some m.cls) (hts : ∀ w ∈ bigW, w.before args s = true) (hlk : Cond.methodLink own idx yX5_addGlue ∈ bigW) (hR : 2 ≤ R.frames ∧ 48 ≤ R.locals) (hf : cells + 0 ≤ R.cells ∧ slots + 0 ≤ R.slots) (hz : ls.size = nL) (hw : (rest.map fun v => v.category).sum ≤ 8) (hS : va_S A0 s.heap H locs) (hd : decode cc pc = .ok (.invokevirtual idx, 3)) (hA : ∀ q, fA 23 ad H.size q → A0 q) (hi : fI 23 ad) (hK : va_K (dC, dI) vwCl [(cI, .int), (cJ, .long)] s) (hP : va_P (dC, dI) vwCl (wC ad cI cJ Bc Bl Pk Pr Pl Pc Pm Gf Gt Gx Gd Gm Ek Er Ea Ex Em Eb Et Ss Sm Wg Wr Md) H) (a0 : Int32) (hs : S_X5_addGlue a0 Bc Md)  (u : (Nat → Int64)) (hu : u = f_X5_addGlue a0 Bc Md) (k : ∀ (H1 : Heap) (locs1 : List Loc), va_P (dC, dI) vwCl (wC ad cI cJ Bc Bl Pk Pr Pl Pc Pm Gf Gt Gx Gd Gm Ek Er Ea Ex Em Eb Et Ss Sm Wg Wr u) H1 → va_S A0 s.heap H1 locs1 → W p l e R s m args below meth c H1 locs1 (cells + 0) (slots + 0) Q (F0 m (pc + 3) ls (rest))) : W p l e R s m args below meth c H locs cells slots Q (F0 m pc ls (.int a0 :: .ref (ad 0) :: rest)) := by
  subst hu
  exact va_callv (va_runV (As := [.int a0]) (rest := rest) ⟨hx, hb, hml, hown, hts⟩ (c_X5_addGlue l dC dI cI cJ ad hi H.size Bc Bl Pk Pr Pl Pc Pm Gf Gt Gx Gd Gm Ek Er Ea Ex Em Eb Et Ss Sm Wg Wr Md a0 hs) (kV 1 hts hlk mI_X5_addGlue mN_RX5 mY_X5_addGlue mV_X5_addGlue rfl rfl (by decide +kernel) hR) ⟨fun a U g mk q => ⟨q.1, q.2.1, q.2.2.1, va_K.moved (u := U) (U := U.calling g mk a) (Vm.Alike.refl U.vm) q.2.2.2⟩, va_recv hK hP (ci := 7) (q0 := 0) rfl rfl, fun U hU hW => ⟨rfl, by rw [hU], by rw [hU]; exact hP, va_K.moved hW.alike hK⟩⟩ rfl rfl hz rfl (lv_room hw) hd hf) hS (fun q _ h => hA q h) (fun q h => hA q h) (fun u t H1 locs1 ht hvm hw9 hB hz1 hk1 hS1 => by
    skip
    exact k H1 locs1 (by rw [← ht]; exact hB) hS1)

def f_X5_add (a0 : Int32) (a1 : Int32) (a2 : Int64) (a3 : Int32) (Bc : Nat → Int64) (Bl : Nat → Int32) (Pk : Nat → Int32) (Pr : Nat → Int32) (Pl : Nat → Int32) (Pc : Nat → Int64) (Pm : Int32) (Gd : Int32) (Md : Nat → Int64) : Nat × Int32 × (Nat → Int64) × (Nat → Int32) × (Nat → Int32) × (Nat → Int32) × (Nat → Int32) × (Nat → Int64) × Int32 × (Nat → Int64) := (let u1 := f_X5_checkKind a0 (2 : Int32); (if u1 = 0 then (let u3 := f_X5_checkRegister a1.toInt64; (if u3 = 0 then (if a0 = (2 : Int32) then (let u14 := f_X5_checkRegister a2; (if u14 = 0 then (let u17 := f_X0_copyTo (2 : Int32) a1 Bc Md; (let u20 := f_X5_addGlue (f_X0_home (2 : Int32) a2.toInt32) Bc u17; (let u22 := f_X5_putMade a0 a1 a3 Bc Bl Pk Pr Pl Pc Pm Gd u20; (if u22.1 = 0 then (0, u22.2.1, u22.2.2.1, u22.2.2.2.1, u22.2.2.2.2.1, u22.2.2.2.2.2.1, u22.2.2.2.2.2.2.1, u22.2.2.2.2.2.2.2.1, u22.2.2.2.2.2.2.2.2, u20) else (u22.1, 0, u22.2.2.1, u22.2.2.2.1, u22.2.2.2.2.1, u22.2.2.2.2.2.1, u22.2.2.2.2.2.2.1, u22.2.2.2.2.2.2.2.1, u22.2.2.2.2.2.2.2.2, u20))))) else (u14, 0, Bc, Bl, Pk, Pr, Pl, Pc, Pm, Md))) else (if (f_X5_within a2 (-4294967294 : Int64) (4294967294 : Int64)) = 0 then (0, (0 : Int32), Bc, Bl, Pk, Pr, Pl, Pc, Pm, Md) else (let u8 := f_X0_copyTo a0 a1 Bc Md; (let u12 := f_X5_putMade a0 a1 a3 Bc Bl Pk Pr Pl Pc Pm Gd (vp_updL u8 (0 : Int32).toNatClampNeg ((u8 (0 : Int32).toNatClampNeg) + a2)); (if u12.1 = 0 then (0, u12.2.1, u12.2.2.1, u12.2.2.2.1, u12.2.2.2.2.1, u12.2.2.2.2.2.1, u12.2.2.2.2.2.2.1, u12.2.2.2.2.2.2.2.1, u12.2.2.2.2.2.2.2.2, (vp_updL u8 (0 : Int32).toNatClampNeg ((u8 (0 : Int32).toNatClampNeg) + a2))) else (u12.1, 0, u12.2.2.1, u12.2.2.2.1, u12.2.2.2.2.1, u12.2.2.2.2.2.1, u12.2.2.2.2.2.2.1, u12.2.2.2.2.2.2.2.1, u12.2.2.2.2.2.2.2.2, (vp_updL u8 (0 : Int32).toNatClampNeg ((u8 (0 : Int32).toNatClampNeg) + a2)))))))) else (u3, 0, Bc, Bl, Pk, Pr, Pl, Pc, Pm, Md))) else (u1, 0, Bc, Bl, Pk, Pr, Pl, Pc, Pm, Md)))
def S_X5_add (a0 : Int32) (a1 : Int32) (a2 : Int64) (a3 : Int32) (Bc : Nat → Int64) (Bl : Nat → Int32) (Pk : Nat → Int32) (Pr : Nat → Int32) (Pl : Nat → Int32) (Pc : Nat → Int64) (Pm : Int32) (Gd : Int32) (Md : Nat → Int64) : Prop := ∀ u1, u1 = f_X5_checkKind a0 (2 : Int32) → (u1 = 0 → (∀ u3, u3 = f_X5_checkRegister a1.toInt64 → (u3 = 0 → ((a0 = (2 : Int32) → (∀ u14, u14 = f_X5_checkRegister a2 → (u14 = 0 → ((S_X0_copyTo (2 : Int32) a1 Bc Md) ∧ (∀ u17, u17 = f_X0_copyTo (2 : Int32) a1 Bc Md → ((S_X0_home (2 : Int32) a2.toInt32) ∧ ((S_X5_addGlue (f_X0_home (2 : Int32) a2.toInt32) Bc u17) ∧ (∀ u20, u20 = f_X5_addGlue (f_X0_home (2 : Int32) a2.toInt32) Bc u17 → ((S_X5_putMade a0 a1 a3 Bc Bl Pk Pr Pl Pc Pm Gd u20) ∧ (∀ u22, u22 = f_X5_putMade a0 a1 a3 Bc Bl Pk Pr Pl Pc Pm Gd u20 → (u22.1 = 0 → (True)))))))))))) ∧ (¬ a0 = (2 : Int32) → (((f_X5_within a2 (-4294967294 : Int64) (4294967294 : Int64)) = 0 → (True)) ∧ (¬ (f_X5_within a2 (-4294967294 : Int64) (4294967294 : Int64)) = 0 → ((S_X0_copyTo a0 a1 Bc Md) ∧ (∀ u8, u8 = f_X0_copyTo a0 a1 Bc Md → ((vp_in (0 : Int32) 21) ∧ ((vp_in (0 : Int32) 21) ∧ ((S_X5_putMade a0 a1 a3 Bc Bl Pk Pr Pl Pc Pm Gd (vp_updL u8 (0 : Int32).toNatClampNeg ((u8 (0 : Int32).toNatClampNeg) + a2))) ∧ (∀ u12, u12 = f_X5_putMade a0 a1 a3 Bc Bl Pk Pr Pl Pc Pm Gd (vp_updL u8 (0 : Int32).toNatClampNeg ((u8 (0 : Int32).toNatClampNeg) + a2)) → (u12.1 = 0 → (True)))))))))))))))
set_option maxHeartbeats 4000000 in
set_option maxRecDepth 100000 in
theorem c_X5_add (l : Launch) (hst : l.stackTraces = false) (dC : Nat → ClassId) (dI : Nat → Nat → Nat) (cI cJ : ClassId) (ad : Nat → Nat) (hi : fI 23 ad) (sz : Nat) (Bc : Nat → Int64) (Bl : Nat → Int32) (Pk : Nat → Int32) (Pr : Nat → Int32) (Pl : Nat → Int32) (Pc : Nat → Int64) (Pm : Int32) (Gf : Nat → Int32) (Gt : Nat → Int32) (Gx : Nat → Int32) (Gd : Int32) (Gm : Int32) (Ek : Nat → Int32) (Er : Nat → Int32) (Ea : Nat → Int32) (Ex : Nat → Int32) (Em : Int32) (Eb : Int32) (Et : Int32) (Ss : Nat → Int32) (Sm : Int32) (Wg : Nat → Int64) (Wr : Nat → Int64) (Md : Nat → Int64) (a0 : Int32) (a1 : Int32) (a2 : Int64) (a3 : Int32) (hs : S_X5_add a0 a1 a2 a3 Bc Bl Pk Pr Pl Pc Pm Gd Md) : vx_Met l yX5_add (mW yX5_add cX5_add 6 (some .int)) { frames := 7, cells := 4, slots := 24, locals := 116 } (va_Pc [.ref (ad 0), .int a0, .int a1, .long a2, .int a3] (fun U => U.heap.size = sz ∧ va_P (dC, dI) vwCl (wC ad cI cJ Bc Bl Pk Pr Pl Pc Pm Gf Gt Gx Gd Gm Ek Er Ea Ex Em Eb Et Ss Sm Wg Wr Md) U.heap ∧ va_K (dC, dI) vwCl [(cI, .int), (cJ, .long)] U ∧ cxt (fA 23 ad sz) U U.heap)) (va_Qi (fun (r : Int32) (_ : Unit) => (f_X5_add a0 a1 a2 a3 Bc Bl Pk Pr Pl Pc Pm Gd Md).1 = 0 ∧ r = (f_X5_add a0 a1 a2 a3 Bc Bl Pk Pr Pl Pc Pm Gd Md).2.1) (fun _ t => va_P (dC, dI) vwCl (wC ad cI cJ ((f_X5_add a0 a1 a2 a3 Bc Bl Pk Pr Pl Pc Pm Gd Md).2.2.1) ((f_X5_add a0 a1 a2 a3 Bc Bl Pk Pr Pl Pc Pm Gd Md).2.2.2.1) ((f_X5_add a0 a1 a2 a3 Bc Bl Pk Pr Pl Pc Pm Gd Md).2.2.2.2.1) ((f_X5_add a0 a1 a2 a3 Bc Bl Pk Pr Pl Pc Pm Gd Md).2.2.2.2.2.1) ((f_X5_add a0 a1 a2 a3 Bc Bl Pk Pr Pl Pc Pm Gd Md).2.2.2.2.2.2.1) ((f_X5_add a0 a1 a2 a3 Bc Bl Pk Pr Pl Pc Pm Gd Md).2.2.2.2.2.2.2.1) ((f_X5_add a0 a1 a2 a3 Bc Bl Pk Pr Pl Pc Pm Gd Md).2.2.2.2.2.2.2.2.1) Gf Gt Gx Gd Gm Ek Er Ea Ex Em Eb Et Ss Sm Wg Wr ((f_X5_add a0 a1 a2 a3 Bc Bl Pk Pr Pl Pc Pm Gd Md).2.2.2.2.2.2.2.2.2)) t.heap) (fA 23 ad sz)) (vx_X (fun _ : Unit => ¬ (f_X5_add a0 a1 a2 a3 Bc Bl Pk Pr Pl Pc Pm Gd Md).1 = 0) (fun E _ t => E = exN ((f_X5_add a0 a1 a2 a3 Bc Bl Pk Pr Pl Pc Pm Gd Md).1) ∧ va_P (dC, dI) vwCl (wC ad cI cJ ((f_X5_add a0 a1 a2 a3 Bc Bl Pk Pr Pl Pc Pm Gd Md).2.2.1) ((f_X5_add a0 a1 a2 a3 Bc Bl Pk Pr Pl Pc Pm Gd Md).2.2.2.1) ((f_X5_add a0 a1 a2 a3 Bc Bl Pk Pr Pl Pc Pm Gd Md).2.2.2.2.1) ((f_X5_add a0 a1 a2 a3 Bc Bl Pk Pr Pl Pc Pm Gd Md).2.2.2.2.2.1) ((f_X5_add a0 a1 a2 a3 Bc Bl Pk Pr Pl Pc Pm Gd Md).2.2.2.2.2.2.1) ((f_X5_add a0 a1 a2 a3 Bc Bl Pk Pr Pl Pc Pm Gd Md).2.2.2.2.2.2.2.1) ((f_X5_add a0 a1 a2 a3 Bc Bl Pk Pr Pl Pc Pm Gd Md).2.2.2.2.2.2.2.2.1) Gf Gt Gx Gd Gm Ek Er Ea Ex Em Eb Et Ss Sm Wg Wr ((f_X5_add a0 a1 a2 a3 Bc Bl Pk Pr Pl Pc Pm Gd Md).2.2.2.2.2.2.2.2.2)) t.heap) (fA 23 ad sz)) 4 24 (fA 23 ad sz) := by
  refine vx_ofW (cc := cX5_add) (maxL := 6) (ret := (some .int)) (by decide) rfl ?_
  intro p e s m args below meth c s₁ B hml ht hv
  obtain ⟨rfl, hsz, hP, hK, hC⟩ := hv
  have hx := B.exec
  have hb := B.bytes
  have hr := B.returns
  have hts := mW_hts (atoms_spec (ws := (mW yX5_add cX5_add 6 (some .int))) B.pre)
  have hown : s.vm.findClass RX5 = some m.cls := findClass_of_methodNamed B.named
  have hlocks := B.notSynchronized
  subst hsz
  have hA : ∀ (n : Nat) (q : Nat), s.heap.size ≤ n → n ≤ q → fA 23 ad s.heap.size q := fun n q h1 h2 => Or.inr (Nat.le_trans h1 h2)
  have hS : va_S (fA 23 ad s.heap.size) s.heap s.heap [] := va_S.rf
  have hA : ∀ q, s.heap.size ≤ q → (fA 23 ad s.heap.size) q := fun q h => Or.inr h
  unfold S_X5_add at hs
  have hl := lv_entry ([.ref (ad 0), .int a0, .int a1, .long a2, .int a3]) (n := 6) (Nat.le_of_ble_eq_true rfl)
  rw [lg_entry_eq]
  generalize (lg_sl ([.ref (ad 0), .int a0, .int a1, .long a2, .int a3]) ++ List.replicate (6 - (lg_sl ([.ref (ad 0), .int a0, .int a1, .long a2, .int a3])).length) Slot.unset).toArray = ls at hl ⊢
  have hl : lv_has ls 6 [(0, .ref (ad 0)), (1, .int a0), (2, .int a1), (3, .long a2), (5, .int a3)] := hl
  refine W_gen (fun Q9 hQ9 => ?_)
  refine lv_iload_n hx hb dX5_add_0 rfl (lv_at hl 1 rfl) ?_
  refine lv_iconst (v := 2) hx hb dX5_add_1 (by decide) ?_
  obtain ⟨u1, hu1⟩ : ∃ z, z = f_X5_checkKind a0 (2 : Int32) := ⟨_, rfl⟩
  have hs := hs u1 hu1
  refine q_X5_checkKind hst hx hb hml hown hts mM_RX5_77 ⟨Nat.le_of_ble_eq_true rfl, Nat.le_of_ble_eq_true rfl⟩ ⟨Nat.le_of_ble_eq_true rfl, Nat.le_of_ble_eq_true rfl⟩ hl.1 (Nat.le_of_ble_eq_true rfl) hS dX5_add_2 hA hC a0 (2 : Int32) u1 hu1 (fun hE c2 H locs hk hz hS ce q9 h71 h72 h73 => ?_) (fun c2 locs hS => ?_)
  · have hP := hP.kept (H1 := H) (fun k z hkz => hk z.1 (hP k z hkz).lt)
    rw [hQ9]
    have hf : f_X5_add a0 a1 a2 a3 Bc Bl Pk Pr Pl Pc Pm Gd Md = (u1, 0, Bc, Bl, Pk, Pr, Pl, Pc, Pm, Md) := by simp only [f_X5_add, ← hu1, if_neg c2]
    refine vx_widen (k := 4) (n := 24) (Nat.le_of_ble_eq_true rfl) (Nat.le_of_ble_eq_true rfl) (vx_out (fun x hx => (ht x hx).elim) hlocks h71 h72 h73 (fun t hh hv => ⟨(), by rw [hf]; exact c2, ⟨by rw [hf]; exact hE, by rw [hf]; show va_P (dC, dI) vwCl _ t.heap; rw [hh]; exact hP⟩, hS.F hh⟩) hS.2.2 (Nat.le_of_ble_eq_true rfl) (Nat.le_of_ble_eq_true rfl))
  · have hs := hs c2
    refine lv_iload_n hx hb dX5_add_5 rfl (lv_at hl 2 rfl) ?_
    refine lv_i2l hx hb dX5_add_6 rfl ?_
    obtain ⟨u3, hu3⟩ : ∃ z, z = f_X5_checkRegister a1.toInt64 := ⟨_, rfl⟩
    have hs := hs u3 hu3
    refine q_X5_checkRegister hst hx hb hml hown hts mM_RX5_87 ⟨Nat.le_of_ble_eq_true rfl, Nat.le_of_ble_eq_true rfl⟩ ⟨Nat.le_of_ble_eq_true rfl, Nat.le_of_ble_eq_true rfl⟩ hl.1 (Nat.le_of_ble_eq_true rfl) hS dX5_add_7 hA hC a1.toInt64 u3 hu3 (fun hE c4 H locs hk hz hS ce q9 h71 h72 h73 => ?_) (fun c4 locs hS => ?_)
    · have hP := hP.kept (H1 := H) (fun k z hkz => hk z.1 (hP k z hkz).lt)
      rw [hQ9]
      have hf : f_X5_add a0 a1 a2 a3 Bc Bl Pk Pr Pl Pc Pm Gd Md = (u3, 0, Bc, Bl, Pk, Pr, Pl, Pc, Pm, Md) := by simp only [f_X5_add, ← hu1, if_pos c2, ← hu3, if_neg c4]
      refine vx_widen (k := 4) (n := 24) (Nat.le_of_ble_eq_true rfl) (Nat.le_of_ble_eq_true rfl) (vx_out (fun x hx => (ht x hx).elim) hlocks h71 h72 h73 (fun t hh hv => ⟨(), by rw [hf]; exact c4, ⟨by rw [hf]; exact hE, by rw [hf]; show va_P (dC, dI) vwCl _ t.heap; rw [hh]; exact hP⟩, hS.F hh⟩) hS.2.2 (Nat.le_of_ble_eq_true rfl) (Nat.le_of_ble_eq_true rfl))
    · have hs := hs c4
      refine lv_iload_n hx hb dX5_add_10 rfl (lv_at hl 1 rfl) ?_
      refine lv_iconst (v := 2) hx hb dX5_add_11 (by decide) ?_
      refine lv_icmp_ne (tgt := 51) hx hb dX5_add_12 (by decide) (fun c5 => ?_) (fun c5 => ?_)
      · have hs := hs.2 c5
        refine lv_lload_n hx hb dX5_add_51 rfl (lv_at hl 3 rfl) ?_
        refine lv_ldc2 hx hb hown (hts _ mK_RX5_122) dX5_add_52 ?_
        refine lv_ldc2 hx hb hown (hts _ mK_RX5_124) dX5_add_55 ?_
        refine q_X5_within hx hb hml hown hts mM_RX5_71 ⟨Nat.le_of_ble_eq_true rfl, Nat.le_of_ble_eq_true rfl⟩ ⟨Nat.le_of_ble_eq_true rfl, Nat.le_of_ble_eq_true rfl⟩ hl.1 (Nat.le_of_ble_eq_true rfl) hS dX5_add_58 hA a2 (-4294967294 : Int64) (4294967294 : Int64) (fun locs hS => ?_)
        refine lv_if_ne (tgt := 66) hx hb dX5_add_61 (by decide) (fun c6 => ?_) (fun c6 => ?_)
        · have hs := hs.2 c6
          refine lv_aload_n hx hb dX5_add_66 rfl (lv_at hl 0 rfl) ?_
          refine va_get (D := (dC, dI)) (ci := 7) (v := .ref (ad 1)) (C := RX5) (T := TX5) (N := 8) hx hb hts iW_X5 hown hK hP 0 rfl rfl 0 (by decide) (hts _ mF_RX5_10) (fun _ h9 => h9) rfl dX5_add_67 ?_
          refine lv_aload_n hx hb dX5_add_70 rfl (lv_at hl 0 rfl) ?_
          refine va_get (D := (dC, dI)) (ci := 7) (v := .ref (ad 22)) (C := RX5) (T := TX5) (N := 8) hx hb hts iW_X5 hown hK hP 0 rfl rfl 7 (by decide) (hts _ mF_RX5_51) (fun _ h9 => h9) rfl dX5_add_71 ?_
          refine lv_iload_n hx hb dX5_add_74 rfl (lv_at hl 1 rfl) ?_
          refine lv_iload_n hx hb dX5_add_75 rfl (lv_at hl 2 rfl) ?_
          obtain ⟨h7, hs⟩ := hs
          obtain ⟨u8, hu8⟩ : ∃ z, z = f_X0_copyTo a0 a1 Bc Md := ⟨_, rfl⟩
          have hs := hs u8 hu8
          refine q_X0_copyTo hx hb hml hown hts mM_RX5_115 ⟨Nat.le_of_ble_eq_true rfl, Nat.le_of_ble_eq_true rfl⟩ ⟨Nat.le_of_ble_eq_true rfl, Nat.le_of_ble_eq_true rfl⟩ hl.1 (Nat.le_of_ble_eq_true rfl) hS dX5_add_76 (fun _ h9 => fA_mono hS.1 h9) hi hK hP hC a0 a1 h7 u8 hu8 (fun H locs hP hS => ?_)
          refine lv_aload_n hx hb dX5_add_79 rfl (lv_at hl 0 rfl) ?_
          refine va_get (D := (dC, dI)) (ci := 7) (v := .ref (ad 22)) (C := RX5) (T := TX5) (N := 8) hx hb hts iW_X5 hown hK hP 0 rfl rfl 7 (by decide) (hts _ mF_RX5_51) (fun _ h9 => h9) rfl dX5_add_80 ?_
          refine lv_iconst (v := 0) hx hb dX5_add_83 (by decide) ?_
          refine lv_dup2_11 hx hb dX5_add_84 rfl rfl ?_
          obtain ⟨h9, hs⟩ := hs
          refine va_lald hx hb hK hP 22 1 rfl rfl h9 dX5_add_85 ?_
          refine lv_lload_n hx hb dX5_add_86 rfl (lv_at hl 3 rfl) ?_
          refine lv_ladd hx hb dX5_add_87 ?_
          obtain ⟨h10, hs⟩ := hs
          refine va_last hx hb hK hP (fA_D hi rfl) hS 22 1 rfl rfl h10 dX5_add_88 (fun H locs hP _ hS => ?_)
          have hP : va_P (dC, dI) vwCl (wC ad cI cJ Bc Bl Pk Pr Pl Pc Pm Gf Gt Gx Gd Gm Ek Er Ea Ex Em Eb Et Ss Sm Wg Wr (vp_updL u8 (0 : Int32).toNatClampNeg ((u8 (0 : Int32).toNatClampNeg) + a2))) H := hP
          refine lv_aload_n hx hb dX5_add_89 rfl (lv_at hl 0 rfl) ?_
          refine lv_iload_n hx hb dX5_add_90 rfl (lv_at hl 1 rfl) ?_
          refine lv_iload_n hx hb dX5_add_91 rfl (lv_at hl 2 rfl) ?_
          refine lv_iload hx hb dX5_add_92 (lv_at hl 4 rfl) ?_
          obtain ⟨h11, hs⟩ := hs
          obtain ⟨u12, hu12⟩ : ∃ z, z = f_X5_putMade a0 a1 a3 Bc Bl Pk Pr Pl Pc Pm Gd (vp_updL u8 (0 : Int32).toNatClampNeg ((u8 (0 : Int32).toNatClampNeg) + a2)) := ⟨_, rfl⟩
          have hs := hs u12 hu12
          refine q_X5_putMade hst hx hb hml hown hts mM_RX5_95 ⟨Nat.le_of_ble_eq_true rfl, Nat.le_of_ble_eq_true rfl⟩ ⟨Nat.le_of_ble_eq_true rfl, Nat.le_of_ble_eq_true rfl⟩ hl.1 (Nat.le_of_ble_eq_true rfl) hS dX5_add_94 (fun _ h9 => fA_mono hS.1 h9) hi hK hP hC a0 a1 a3 h11 u12 hu12 (fun hE c13 H locs hP hS ce q9 h71 h72 h73 => ?_) (fun c13 H locs hP hS => ?_)
          · rw [hQ9]
            have hf : f_X5_add a0 a1 a2 a3 Bc Bl Pk Pr Pl Pc Pm Gd Md = (u12.1, 0, u12.2.2.1, u12.2.2.2.1, u12.2.2.2.2.1, u12.2.2.2.2.2.1, u12.2.2.2.2.2.2.1, u12.2.2.2.2.2.2.2.1, u12.2.2.2.2.2.2.2.2, (vp_updL u8 (0 : Int32).toNatClampNeg ((u8 (0 : Int32).toNatClampNeg) + a2))) := by simp only [f_X5_add, ← hu1, if_pos c2, ← hu3, if_pos c4, if_neg c5, if_neg c6, ← hu8, ← hu12, if_neg c13]
            refine vx_widen (k := 4) (n := 24) (Nat.le_of_ble_eq_true rfl) (Nat.le_of_ble_eq_true rfl) (vx_out (fun x hx => (ht x hx).elim) hlocks h71 h72 h73 (fun t hh hv => ⟨(), by rw [hf]; exact c13, ⟨by rw [hf]; exact hE, by rw [hf]; show va_P (dC, dI) vwCl _ t.heap; rw [hh]; exact hP⟩, hS.F hh⟩) hS.2.2 (Nat.le_of_ble_eq_true rfl) (Nat.le_of_ble_eq_true rfl))
          · have hs := hs c13
            rw [hQ9]
            have hf : f_X5_add a0 a1 a2 a3 Bc Bl Pk Pr Pl Pc Pm Gd Md = (0, u12.2.1, u12.2.2.1, u12.2.2.2.1, u12.2.2.2.2.1, u12.2.2.2.2.2.1, u12.2.2.2.2.2.2.1, u12.2.2.2.2.2.2.2.1, u12.2.2.2.2.2.2.2.2, (vp_updL u8 (0 : Int32).toNatClampNeg ((u8 (0 : Int32).toNatClampNeg) + a2))) := by simp only [f_X5_add, ← hu1, if_pos c2, ← hu3, if_pos c4, if_neg c5, if_neg c6, ← hu8, ← hu12, if_pos c13]
            refine vx_ret ?_
            refine W.widen (k := 4) (n := 24) (Nat.le_of_ble_eq_true rfl) (Nat.le_of_ble_eq_true rfl) ?_
            exact W.iret (v := u12.2.1) hx hb hr (fun t ht hW => ⟨⟨u12.2.1, (), rfl, ⟨by rw [hf], by rw [hf]⟩, by rw [hf]; show va_P (dC, dI) vwCl _ t.heap; rw [ht]; exact hP⟩, hS.F ht⟩) hS.2.2 dX5_add_97
        · have hs := hs.1 c6
          refine lv_iconst (v := 0) hx hb dX5_add_64 (by decide) ?_
          rw [hQ9]
          have hf : f_X5_add a0 a1 a2 a3 Bc Bl Pk Pr Pl Pc Pm Gd Md = (0, (0 : Int32), Bc, Bl, Pk, Pr, Pl, Pc, Pm, Md) := by simp only [f_X5_add, ← hu1, if_pos c2, ← hu3, if_pos c4, if_neg c5, if_pos c6]
          refine vx_ret ?_
          refine W.widen (k := 4) (n := 24) (Nat.le_of_ble_eq_true rfl) (Nat.le_of_ble_eq_true rfl) ?_
          exact W.iret (v := (0 : Int32)) hx hb hr (fun t ht hW => ⟨⟨(0 : Int32), (), rfl, ⟨by rw [hf], by rw [hf]⟩, by rw [hf]; show va_P (dC, dI) vwCl _ t.heap; rw [ht]; exact hP⟩, hS.F ht⟩) hS.2.2 dX5_add_65
      · have hs := hs.1 c5
        refine lv_lload_n hx hb dX5_add_15 rfl (lv_at hl 3 rfl) ?_
        obtain ⟨u14, hu14⟩ : ∃ z, z = f_X5_checkRegister a2 := ⟨_, rfl⟩
        have hs := hs u14 hu14
        refine q_X5_checkRegister hst hx hb hml hown hts mM_RX5_87 ⟨Nat.le_of_ble_eq_true rfl, Nat.le_of_ble_eq_true rfl⟩ ⟨Nat.le_of_ble_eq_true rfl, Nat.le_of_ble_eq_true rfl⟩ hl.1 (Nat.le_of_ble_eq_true rfl) hS dX5_add_16 hA hC a2 u14 hu14 (fun hE c15 H locs hk hz hS ce q9 h71 h72 h73 => ?_) (fun c15 locs hS => ?_)
        · have hP := hP.kept (H1 := H) (fun k z hkz => hk z.1 (hP k z hkz).lt)
          rw [hQ9]
          have hf : f_X5_add a0 a1 a2 a3 Bc Bl Pk Pr Pl Pc Pm Gd Md = (u14, 0, Bc, Bl, Pk, Pr, Pl, Pc, Pm, Md) := by simp only [f_X5_add, ← hu1, if_pos c2, ← hu3, if_pos c4, if_pos c5, ← hu14, if_neg c15]
          refine vx_widen (k := 4) (n := 24) (Nat.le_of_ble_eq_true rfl) (Nat.le_of_ble_eq_true rfl) (vx_out (fun x hx => (ht x hx).elim) hlocks h71 h72 h73 (fun t hh hv => ⟨(), by rw [hf]; exact c15, ⟨by rw [hf]; exact hE, by rw [hf]; show va_P (dC, dI) vwCl _ t.heap; rw [hh]; exact hP⟩, hS.F hh⟩) hS.2.2 (Nat.le_of_ble_eq_true rfl) (Nat.le_of_ble_eq_true rfl))
        · have hs := hs c15
          refine lv_aload_n hx hb dX5_add_19 rfl (lv_at hl 0 rfl) ?_
          refine va_get (D := (dC, dI)) (ci := 7) (v := .ref (ad 1)) (C := RX5) (T := TX5) (N := 8) hx hb hts iW_X5 hown hK hP 0 rfl rfl 0 (by decide) (hts _ mF_RX5_10) (fun _ h9 => h9) rfl dX5_add_20 ?_
          refine lv_aload_n hx hb dX5_add_23 rfl (lv_at hl 0 rfl) ?_
          refine va_get (D := (dC, dI)) (ci := 7) (v := .ref (ad 22)) (C := RX5) (T := TX5) (N := 8) hx hb hts iW_X5 hown hK hP 0 rfl rfl 7 (by decide) (hts _ mF_RX5_51) (fun _ h9 => h9) rfl dX5_add_24 ?_
          refine lv_iconst (v := 2) hx hb dX5_add_27 (by decide) ?_
          refine lv_iload_n hx hb dX5_add_28 rfl (lv_at hl 2 rfl) ?_
          obtain ⟨h16, hs⟩ := hs
          obtain ⟨u17, hu17⟩ : ∃ z, z = f_X0_copyTo (2 : Int32) a1 Bc Md := ⟨_, rfl⟩
          have hs := hs u17 hu17
          refine q_X0_copyTo hx hb hml hown hts mM_RX5_115 ⟨Nat.le_of_ble_eq_true rfl, Nat.le_of_ble_eq_true rfl⟩ ⟨Nat.le_of_ble_eq_true rfl, Nat.le_of_ble_eq_true rfl⟩ hl.1 (Nat.le_of_ble_eq_true rfl) hS dX5_add_29 (fun _ h9 => fA_mono hS.1 h9) hi hK hP hC (2 : Int32) a1 h16 u17 hu17 (fun H locs hP hS => ?_)
          refine lv_aload_n hx hb dX5_add_32 rfl (lv_at hl 0 rfl) ?_
          refine lv_iconst (v := 2) hx hb dX5_add_33 (by decide) ?_
          refine lv_lload_n hx hb dX5_add_34 rfl (lv_at hl 3 rfl) ?_
          refine lv_l2i hx hb dX5_add_35 rfl ?_
          obtain ⟨h18, hs⟩ := hs
          refine q_X0_home hx hb hml hown hts mM_RX5_102 ⟨Nat.le_of_ble_eq_true rfl, Nat.le_of_ble_eq_true rfl⟩ ⟨Nat.le_of_ble_eq_true rfl, Nat.le_of_ble_eq_true rfl⟩ hl.1 (Nat.le_of_ble_eq_true rfl) hS dX5_add_36 hA hC (2 : Int32) a2.toInt32 h18 (fun locs hS => ?_)
          obtain ⟨h19, hs⟩ := hs
          obtain ⟨u20, hu20⟩ : ∃ z, z = f_X5_addGlue (f_X0_home (2 : Int32) a2.toInt32) Bc u17 := ⟨_, rfl⟩
          have hs := hs u20 hu20
          refine q_X5_addGlue hx hb hml hown hts mM_RX5_119 ⟨Nat.le_of_ble_eq_true rfl, Nat.le_of_ble_eq_true rfl⟩ ⟨Nat.le_of_ble_eq_true rfl, Nat.le_of_ble_eq_true rfl⟩ hl.1 (Nat.le_of_ble_eq_true rfl) hS dX5_add_39 (fun _ h9 => fA_mono hS.1 h9) hi hK hP (f_X0_home (2 : Int32) a2.toInt32) h19 u20 hu20 (fun H locs hP hS => ?_)
          refine lv_aload_n hx hb dX5_add_42 rfl (lv_at hl 0 rfl) ?_
          refine lv_iload_n hx hb dX5_add_43 rfl (lv_at hl 1 rfl) ?_
          refine lv_iload_n hx hb dX5_add_44 rfl (lv_at hl 2 rfl) ?_
          refine lv_iload hx hb dX5_add_45 (lv_at hl 4 rfl) ?_
          obtain ⟨h21, hs⟩ := hs
          obtain ⟨u22, hu22⟩ : ∃ z, z = f_X5_putMade a0 a1 a3 Bc Bl Pk Pr Pl Pc Pm Gd u20 := ⟨_, rfl⟩
          have hs := hs u22 hu22
          refine q_X5_putMade hst hx hb hml hown hts mM_RX5_95 ⟨Nat.le_of_ble_eq_true rfl, Nat.le_of_ble_eq_true rfl⟩ ⟨Nat.le_of_ble_eq_true rfl, Nat.le_of_ble_eq_true rfl⟩ hl.1 (Nat.le_of_ble_eq_true rfl) hS dX5_add_47 (fun _ h9 => fA_mono hS.1 h9) hi hK hP hC a0 a1 a3 h21 u22 hu22 (fun hE c23 H locs hP hS ce q9 h71 h72 h73 => ?_) (fun c23 H locs hP hS => ?_)
          · rw [hQ9]
            have hf : f_X5_add a0 a1 a2 a3 Bc Bl Pk Pr Pl Pc Pm Gd Md = (u22.1, 0, u22.2.2.1, u22.2.2.2.1, u22.2.2.2.2.1, u22.2.2.2.2.2.1, u22.2.2.2.2.2.2.1, u22.2.2.2.2.2.2.2.1, u22.2.2.2.2.2.2.2.2, u20) := by simp only [f_X5_add, ← hu1, if_pos c2, ← hu3, if_pos c4, if_pos c5, ← hu14, if_pos c15, ← hu17, ← hu20, ← hu22, if_neg c23]
            refine vx_widen (k := 4) (n := 24) (Nat.le_of_ble_eq_true rfl) (Nat.le_of_ble_eq_true rfl) (vx_out (fun x hx => (ht x hx).elim) hlocks h71 h72 h73 (fun t hh hv => ⟨(), by rw [hf]; exact c23, ⟨by rw [hf]; exact hE, by rw [hf]; show va_P (dC, dI) vwCl _ t.heap; rw [hh]; exact hP⟩, hS.F hh⟩) hS.2.2 (Nat.le_of_ble_eq_true rfl) (Nat.le_of_ble_eq_true rfl))
          · have hs := hs c23
            rw [hQ9]
            have hf : f_X5_add a0 a1 a2 a3 Bc Bl Pk Pr Pl Pc Pm Gd Md = (0, u22.2.1, u22.2.2.1, u22.2.2.2.1, u22.2.2.2.2.1, u22.2.2.2.2.2.1, u22.2.2.2.2.2.2.1, u22.2.2.2.2.2.2.2.1, u22.2.2.2.2.2.2.2.2, u20) := by simp only [f_X5_add, ← hu1, if_pos c2, ← hu3, if_pos c4, if_pos c5, ← hu14, if_pos c15, ← hu17, ← hu20, ← hu22, if_pos c23]
            refine vx_ret ?_
            exact W.iret (v := u22.2.1) hx hb hr (fun t ht hW => ⟨⟨u22.2.1, (), rfl, ⟨by rw [hf], by rw [hf]⟩, by rw [hf]; show va_P (dC, dI) vwCl _ t.heap; rw [ht]; exact hP⟩, hS.F ht⟩) hS.2.2 dX5_add_50
theorem q_X5_add {p : Program} {l : Launch} {e : Env} {R : Room} {s : State} {m : MethodId} {args : Array Value} {below : List Frame} {meth : Method} {c : Code} {H : Heap} {locs : List Loc} {cells slots : Nat} {Q : State → Prop} {pc : Nat} {ls : Array Slot} {rest : List Value} {cc : ByteArray} {nL idx : Nat} {own : String} {A0 : Nat → Prop} {dC : Nat → ClassId} {dI : Nat → Nat → Nat} {cI cJ : ClassId} {ad : Nat → Nat} {Bc : Nat → Int64} {Bl : Nat → Int32} {Pk : Nat → Int32} {Pr : Nat → Int32} {Pl : Nat → Int32} {Pc : Nat → Int64} {Pm : Int32} {Gf : Nat → Int32} {Gt : Nat → Int32} {Gx : Nat → Int32} {Gd : Int32} {Gm : Int32} {Ek : Nat → Int32} {Er : Nat → Int32} {Ea : Nat → Int32} {Ex : Nat → Int32} {Em : Int32} {Eb : Int32} {Et : Int32} {Ss : Nat → Int32} {Sm : Int32} {Wg : Nat → Int64} {Wr : Nat → Int64} {Md : Nat → Int64} (hst : l.stackTraces = false) (hx : p.tables.exec = Jvm.exec) (hb : c.code = cc) (hml : c.maxLocals = nL) (hown : s.vm.findClass own = some m.cls) (hts : ∀ w ∈ bigW, w.before args s = true) (hlk : Cond.methodLink own idx yX5_add ∈ bigW) (hR : 8 ≤ R.frames ∧ 141 ≤ R.locals) (hf : cells + 4 ≤ R.cells ∧ slots + 24 ≤ R.slots) (hz : ls.size = nL) (hw : (rest.map fun v => v.category).sum ≤ 8) (hS : va_S A0 s.heap H locs) (hd : decode cc pc = .ok (.invokevirtual idx, 3)) (hA : ∀ q, fA 23 ad H.size q → A0 q) (hi : fI 23 ad) (hK : va_K (dC, dI) vwCl [(cI, .int), (cJ, .long)] s) (hP : va_P (dC, dI) vwCl (wC ad cI cJ Bc Bl Pk Pr Pl Pc Pm Gf Gt Gx Gd Gm Ek Er Ea Ex Em Eb Et Ss Sm Wg Wr Md) H) (hC : cxt A0 s s.heap) (a0 : Int32) (a1 : Int32) (a2 : Int64) (a3 : Int32) (hs : S_X5_add a0 a1 a2 a3 Bc Bl Pk Pr Pl Pc Pm Gd Md)  (u : Nat × Int32 × (Nat → Int64) × (Nat → Int32) × (Nat → Int32) × (Nat → Int32) × (Nat → Int32) × (Nat → Int64) × Int32 × (Nat → Int64)) (hu : u = f_X5_add a0 a1 a2 a3 Bc Bl Pk Pr Pl Pc Pm Gd Md) (kx : ∀ {E : String} (hE : E = exN u.1) (ho : ¬ u.1 = 0) (H1 : Heap) (locs1 : List Loc), va_P (dC, dI) vwCl (wC ad cI cJ u.2.2.1 u.2.2.2.1 u.2.2.2.2.1 u.2.2.2.2.2.1 u.2.2.2.2.2.2.1 u.2.2.2.2.2.2.2.1 u.2.2.2.2.2.2.2.2.1 Gf Gt Gx Gd Gm Ek Er Ea Ex Em Eb Et Ss Sm Wg Wr u.2.2.2.2.2.2.2.2.2) H1 → va_S A0 s.heap H1 locs1 → ∀ (ce : Cell) (q9 : Addr), H1[q9]? = some ce → ce.vm = .none → s.vm.findClass E = some ce.cls → vx_W p l e R s m args below meth c H1 locs1 (cells + 4) (slots + 24) Q (F0 m pc ls rest) q9) (k : u.1 = 0 → ∀ (H1 : Heap) (locs1 : List Loc), va_P (dC, dI) vwCl (wC ad cI cJ u.2.2.1 u.2.2.2.1 u.2.2.2.2.1 u.2.2.2.2.2.1 u.2.2.2.2.2.2.1 u.2.2.2.2.2.2.2.1 u.2.2.2.2.2.2.2.2.1 Gf Gt Gx Gd Gm Ek Er Ea Ex Em Eb Et Ss Sm Wg Wr u.2.2.2.2.2.2.2.2.2) H1 → va_S A0 s.heap H1 locs1 → W p l e R s m args below meth c H1 locs1 (cells + 4) (slots + 24) Q (F0 m (pc + 3) ls (.int u.2.1 :: rest))) : W p l e R s m args below meth c H locs cells slots Q (F0 m pc ls (.int a3 :: .long a2 :: .int a1 :: .int a0 :: .ref (ad 0) :: rest)) := by
  subst hu
  exact vx_calli (vx_runV (As := [.int a0, .int a1, .long a2, .int a3]) (rest := rest) ⟨hx, hb, hml, hown, hts⟩ (c_X5_add l hst dC dI cI cJ ad hi H.size Bc Bl Pk Pr Pl Pc Pm Gf Gt Gx Gd Gm Ek Er Ea Ex Em Eb Et Ss Sm Wg Wr Md a0 a1 a2 a3 hs) (kV 4 hts hlk mI_X5_add mN_RX5 mY_X5_add mV_X5_add rfl rfl (by decide +kernel) hR) ⟨fun a U g mk q => ⟨q.1, q.2.1, q.2.2.1, va_K.moved (u := U) (U := U.calling g mk a) (Vm.Alike.refl U.vm) q.2.2.2.1, q.2.2.2.2.call⟩, va_recv hK hP (ci := 7) (q0 := 0) rfl rfl, fun U hU hW => ⟨rfl, by rw [hU], by rw [hU]; exact hP, va_K.moved hW.alike hK, hC.here hS hU hW hA⟩⟩ rfl rfl hz rfl (lv_room hw) hd hf) hS (fun q _ h => hA q h) (fun q h => hA q h) (fun q _ h => hA q h) (fun E ce q9 u t H1 locs1 ht hvm hw9 hB hz1 hk1 hS1 h1 h2 h3 => kx hB.1 hw9 H1 locs1 (by rw [← ht]; exact hB.2) hS1 ce q9 h1 h2 h3) (fun r u t H1 locs1 ht hvm hw9 hB hz1 hk1 hS1 => by
    obtain ⟨e1, rfl⟩ := hw9
    exact k e1 H1 locs1 (by rw [← ht]; exact hB) hS1)
theorem qf_X5_add {p : Program} {l : Launch} {e : Env} {R : Room} {s : State} {m : MethodId} {args : Array Value} {below : List Frame} {meth : Method} {c : Code} {H : Heap} {locs : List Loc} {cells slots : Nat} {Q : State → Prop} {pc : Nat} {ls : Array Slot} {rest : List Value} {cc : ByteArray} {nL idx : Nat} {own : String} {A0 : Nat → Prop} {dC : Nat → ClassId} {dI : Nat → Nat → Nat} {cI cJ : ClassId} {ad : Nat → Nat} {Bc : Nat → Int64} {Bl : Nat → Int32} {Pk : Nat → Int32} {Pr : Nat → Int32} {Pl : Nat → Int32} {Pc : Nat → Int64} {Pm : Int32} {Gf : Nat → Int32} {Gt : Nat → Int32} {Gx : Nat → Int32} {Gd : Int32} {Gm : Int32} {Ek : Nat → Int32} {Er : Nat → Int32} {Ea : Nat → Int32} {Ex : Nat → Int32} {Em : Int32} {Eb : Int32} {Et : Int32} {Ss : Nat → Int32} {Sm : Int32} {Wg : Nat → Int64} {Wr : Nat → Int64} {Md : Nat → Int64} (hst : l.stackTraces = false) (hx : p.tables.exec = Jvm.exec) (hb : c.code = cc) (hml : c.maxLocals = nL) (hown : s.vm.findClass own = some m.cls) (hts : ∀ w ∈ bigW, w.before args s = true) (hlk : Cond.methodLink own idx yX5_add ∈ bigW) (hR : 8 ≤ R.frames ∧ 141 ≤ R.locals) (hf : cells + 4 ≤ R.cells ∧ slots + 24 ≤ R.slots) (hz : ls.size = nL) (hw : (rest.map fun v => v.category).sum ≤ 8) (hS : va_S A0 s.heap H locs) (hd : decode cc pc = .ok (.invokevirtual idx, 3)) (hA : ∀ q, fA 23 ad H.size q → A0 q) (hi : fI 23 ad) (hK : va_K (dC, dI) vwCl [(cI, .int), (cJ, .long)] s) (hP : va_P (dC, dI) vwCl (wC ad cI cJ Bc Bl Pk Pr Pl Pc Pm Gf Gt Gx Gd Gm Ek Er Ea Ex Em Eb Et Ss Sm Wg Wr Md) H) (hC : cxt A0 s s.heap) (a0 : Int32) (a1 : Int32) (a2 : Int64) (a3 : Int32) (hs : S_X5_add a0 a1 a2 a3 Bc Bl Pk Pr Pl Pc Pm Gd Md)  (u : Nat × Int32 × (Nat → Int64) × (Nat → Int32) × (Nat → Int32) × (Nat → Int32) × (Nat → Int32) × (Nat → Int64) × Int32 × (Nat → Int64)) (hu : u = f_X5_add a0 a1 a2 a3 Bc Bl Pk Pr Pl Pc Pm Gd Md) (kx : ∀ {E : String} (hE : E = exN u.1) (ho : ¬ u.1 = 0) (H1 : Heap) (locs1 : List Loc), va_P (dC, dI) vwCl (wC ad cI cJ u.2.2.1 u.2.2.2.1 u.2.2.2.2.1 u.2.2.2.2.2.1 u.2.2.2.2.2.2.1 u.2.2.2.2.2.2.2.1 u.2.2.2.2.2.2.2.2.1 Gf Gt Gx Gd Gm Ek Er Ea Ex Em Eb Et Ss Sm Wg Wr u.2.2.2.2.2.2.2.2.2) H1 → va_S A0 s.heap H1 locs1 → (∀ q : Nat, q < H.size → ¬ fA 23 ad H.size q → H1[q]? = H[q]?) → H.size ≤ H1.size → ∀ (ce : Cell) (q9 : Addr), H1[q9]? = some ce → ce.vm = .none → s.vm.findClass E = some ce.cls → vx_W p l e R s m args below meth c H1 locs1 (cells + 4) (slots + 24) Q (F0 m pc ls rest) q9) (k : u.1 = 0 → ∀ (H1 : Heap) (locs1 : List Loc), va_P (dC, dI) vwCl (wC ad cI cJ u.2.2.1 u.2.2.2.1 u.2.2.2.2.1 u.2.2.2.2.2.1 u.2.2.2.2.2.2.1 u.2.2.2.2.2.2.2.1 u.2.2.2.2.2.2.2.2.1 Gf Gt Gx Gd Gm Ek Er Ea Ex Em Eb Et Ss Sm Wg Wr u.2.2.2.2.2.2.2.2.2) H1 → va_S A0 s.heap H1 locs1 → (∀ q : Nat, q < H.size → ¬ fA 23 ad H.size q → H1[q]? = H[q]?) → H.size ≤ H1.size → W p l e R s m args below meth c H1 locs1 (cells + 4) (slots + 24) Q (F0 m (pc + 3) ls (.int u.2.1 :: rest))) : W p l e R s m args below meth c H locs cells slots Q (F0 m pc ls (.int a3 :: .long a2 :: .int a1 :: .int a0 :: .ref (ad 0) :: rest)) := by
  subst hu
  exact vx_calli (vx_runV (As := [.int a0, .int a1, .long a2, .int a3]) (rest := rest) ⟨hx, hb, hml, hown, hts⟩ (c_X5_add l hst dC dI cI cJ ad hi H.size Bc Bl Pk Pr Pl Pc Pm Gf Gt Gx Gd Gm Ek Er Ea Ex Em Eb Et Ss Sm Wg Wr Md a0 a1 a2 a3 hs) (kV 4 hts hlk mI_X5_add mN_RX5 mY_X5_add mV_X5_add rfl rfl (by decide +kernel) hR) ⟨fun a U g mk q => ⟨q.1, q.2.1, q.2.2.1, va_K.moved (u := U) (U := U.calling g mk a) (Vm.Alike.refl U.vm) q.2.2.2.1, q.2.2.2.2.call⟩, va_recv hK hP (ci := 7) (q0 := 0) rfl rfl, fun U hU hW => ⟨rfl, by rw [hU], by rw [hU]; exact hP, va_K.moved hW.alike hK, hC.here hS hU hW hA⟩⟩ rfl rfl hz rfl (lv_room hw) hd hf) hS (fun q _ h => hA q h) (fun q h => hA q h) (fun q _ h => hA q h) (fun E ce q9 u t H1 locs1 ht hvm hw9 hB hz1 hk1 hS1 h1 h2 h3 => kx hB.1 hw9 H1 locs1 (by rw [← ht]; exact hB.2) hS1 hk1 hz1 ce q9 h1 h2 h3) (fun r u t H1 locs1 ht hvm hw9 hB hz1 hk1 hS1 => by
    obtain ⟨e1, rfl⟩ := hw9
    exact k e1 H1 locs1 (by rw [← ht]; exact hB) hS1 hk1 hz1)

def f_X5_multiply (a0 : Int32) (a1 : Int32) (a2 : Int64) (a3 : Int32) (Bc : Nat → Int64) (Bl : Nat → Int32) (Pk : Nat → Int32) (Pr : Nat → Int32) (Pl : Nat → Int32) (Pc : Nat → Int64) (Pm : Int32) (Gd : Int32) (Md : Nat → Int64) : Nat × Int32 × (Nat → Int64) × (Nat → Int32) × (Nat → Int32) × (Nat → Int32) × (Nat → Int32) × (Nat → Int64) × Int32 × (Nat → Int64) := (let u1 := f_X5_checkKind a0 (2 : Int32); (if u1 = 0 then (let u3 := f_X5_checkRegister a1.toInt64; (if u3 = 0 then (if (f_X5_isCount a2) = 0 then (0, (0 : Int32), Bc, Bl, Pk, Pr, Pl, Pc, Pm, Md) else (let u7 := f_X0_copyTo a0 a1 Bc Md; (if a0 = (2 : Int32) then (let u19 := f_X5_putMade a0 a1 a3 Bc Bl Pk Pr Pl Pc Pm Gd (vp_updL (vp_updL (vp_updL u7 (0 : Int32).toNatClampNeg ((u7 (0 : Int32).toNatClampNeg) * a2)) (1 : Int32).toNatClampNeg (((vp_updL u7 (0 : Int32).toNatClampNeg ((u7 (0 : Int32).toNatClampNeg) * a2)) (1 : Int32).toNatClampNeg) * a2)) (3 : Int32).toNatClampNeg (((vp_updL (vp_updL u7 (0 : Int32).toNatClampNeg ((u7 (0 : Int32).toNatClampNeg) * a2)) (1 : Int32).toNatClampNeg (((vp_updL u7 (0 : Int32).toNatClampNeg ((u7 (0 : Int32).toNatClampNeg) * a2)) (1 : Int32).toNatClampNeg) * a2)) (3 : Int32).toNatClampNeg) * a2)); (if u19.1 = 0 then (0, u19.2.1, u19.2.2.1, u19.2.2.2.1, u19.2.2.2.2.1, u19.2.2.2.2.2.1, u19.2.2.2.2.2.2.1, u19.2.2.2.2.2.2.2.1, u19.2.2.2.2.2.2.2.2, (vp_updL (vp_updL (vp_updL u7 (0 : Int32).toNatClampNeg ((u7 (0 : Int32).toNatClampNeg) * a2)) (1 : Int32).toNatClampNeg (((vp_updL u7 (0 : Int32).toNatClampNeg ((u7 (0 : Int32).toNatClampNeg) * a2)) (1 : Int32).toNatClampNeg) * a2)) (3 : Int32).toNatClampNeg (((vp_updL (vp_updL u7 (0 : Int32).toNatClampNeg ((u7 (0 : Int32).toNatClampNeg) * a2)) (1 : Int32).toNatClampNeg (((vp_updL u7 (0 : Int32).toNatClampNeg ((u7 (0 : Int32).toNatClampNeg) * a2)) (1 : Int32).toNatClampNeg) * a2)) (3 : Int32).toNatClampNeg) * a2))) else (u19.1, 0, u19.2.2.1, u19.2.2.2.1, u19.2.2.2.2.1, u19.2.2.2.2.2.1, u19.2.2.2.2.2.2.1, u19.2.2.2.2.2.2.2.1, u19.2.2.2.2.2.2.2.2, (vp_updL (vp_updL (vp_updL u7 (0 : Int32).toNatClampNeg ((u7 (0 : Int32).toNatClampNeg) * a2)) (1 : Int32).toNatClampNeg (((vp_updL u7 (0 : Int32).toNatClampNeg ((u7 (0 : Int32).toNatClampNeg) * a2)) (1 : Int32).toNatClampNeg) * a2)) (3 : Int32).toNatClampNeg (((vp_updL (vp_updL u7 (0 : Int32).toNatClampNeg ((u7 (0 : Int32).toNatClampNeg) * a2)) (1 : Int32).toNatClampNeg (((vp_updL u7 (0 : Int32).toNatClampNeg ((u7 (0 : Int32).toNatClampNeg) * a2)) (1 : Int32).toNatClampNeg) * a2)) (3 : Int32).toNatClampNeg) * a2))))) else (let u12 := f_X5_putMade a0 a1 a3 Bc Bl Pk Pr Pl Pc Pm Gd (vp_updL u7 (0 : Int32).toNatClampNeg ((u7 (0 : Int32).toNatClampNeg) * a2)); (if u12.1 = 0 then (0, u12.2.1, u12.2.2.1, u12.2.2.2.1, u12.2.2.2.2.1, u12.2.2.2.2.2.1, u12.2.2.2.2.2.2.1, u12.2.2.2.2.2.2.2.1, u12.2.2.2.2.2.2.2.2, (vp_updL u7 (0 : Int32).toNatClampNeg ((u7 (0 : Int32).toNatClampNeg) * a2))) else (u12.1, 0, u12.2.2.1, u12.2.2.2.1, u12.2.2.2.2.1, u12.2.2.2.2.2.1, u12.2.2.2.2.2.2.1, u12.2.2.2.2.2.2.2.1, u12.2.2.2.2.2.2.2.2, (vp_updL u7 (0 : Int32).toNatClampNeg ((u7 (0 : Int32).toNatClampNeg) * a2)))))))) else (u3, 0, Bc, Bl, Pk, Pr, Pl, Pc, Pm, Md))) else (u1, 0, Bc, Bl, Pk, Pr, Pl, Pc, Pm, Md)))
def S_X5_multiply (a0 : Int32) (a1 : Int32) (a2 : Int64) (a3 : Int32) (Bc : Nat → Int64) (Bl : Nat → Int32) (Pk : Nat → Int32) (Pr : Nat → Int32) (Pl : Nat → Int32) (Pc : Nat → Int64) (Pm : Int32) (Gd : Int32) (Md : Nat → Int64) : Prop := ∀ u1, u1 = f_X5_checkKind a0 (2 : Int32) → (u1 = 0 → (∀ u3, u3 = f_X5_checkRegister a1.toInt64 → (u3 = 0 → (((f_X5_isCount a2) = 0 → (True)) ∧ (¬ (f_X5_isCount a2) = 0 → ((S_X0_copyTo a0 a1 Bc Md) ∧ (∀ u7, u7 = f_X0_copyTo a0 a1 Bc Md → ((vp_in (0 : Int32) 21) ∧ ((vp_in (0 : Int32) 21) ∧ ((a0 = (2 : Int32) → ((vp_in (1 : Int32) 21) ∧ ((vp_in (1 : Int32) 21) ∧ ((vp_in (3 : Int32) 21) ∧ ((vp_in (3 : Int32) 21) ∧ ((S_X5_putMade a0 a1 a3 Bc Bl Pk Pr Pl Pc Pm Gd (vp_updL (vp_updL (vp_updL u7 (0 : Int32).toNatClampNeg ((u7 (0 : Int32).toNatClampNeg) * a2)) (1 : Int32).toNatClampNeg (((vp_updL u7 (0 : Int32).toNatClampNeg ((u7 (0 : Int32).toNatClampNeg) * a2)) (1 : Int32).toNatClampNeg) * a2)) (3 : Int32).toNatClampNeg (((vp_updL (vp_updL u7 (0 : Int32).toNatClampNeg ((u7 (0 : Int32).toNatClampNeg) * a2)) (1 : Int32).toNatClampNeg (((vp_updL u7 (0 : Int32).toNatClampNeg ((u7 (0 : Int32).toNatClampNeg) * a2)) (1 : Int32).toNatClampNeg) * a2)) (3 : Int32).toNatClampNeg) * a2))) ∧ (∀ u19, u19 = f_X5_putMade a0 a1 a3 Bc Bl Pk Pr Pl Pc Pm Gd (vp_updL (vp_updL (vp_updL u7 (0 : Int32).toNatClampNeg ((u7 (0 : Int32).toNatClampNeg) * a2)) (1 : Int32).toNatClampNeg (((vp_updL u7 (0 : Int32).toNatClampNeg ((u7 (0 : Int32).toNatClampNeg) * a2)) (1 : Int32).toNatClampNeg) * a2)) (3 : Int32).toNatClampNeg (((vp_updL (vp_updL u7 (0 : Int32).toNatClampNeg ((u7 (0 : Int32).toNatClampNeg) * a2)) (1 : Int32).toNatClampNeg (((vp_updL u7 (0 : Int32).toNatClampNeg ((u7 (0 : Int32).toNatClampNeg) * a2)) (1 : Int32).toNatClampNeg) * a2)) (3 : Int32).toNatClampNeg) * a2)) → (u19.1 = 0 → (True))))))))) ∧ (¬ a0 = (2 : Int32) → ((S_X5_putMade a0 a1 a3 Bc Bl Pk Pr Pl Pc Pm Gd (vp_updL u7 (0 : Int32).toNatClampNeg ((u7 (0 : Int32).toNatClampNeg) * a2))) ∧ (∀ u12, u12 = f_X5_putMade a0 a1 a3 Bc Bl Pk Pr Pl Pc Pm Gd (vp_updL u7 (0 : Int32).toNatClampNeg ((u7 (0 : Int32).toNatClampNeg) * a2)) → (u12.1 = 0 → (True)))))))))))))))
set_option maxHeartbeats 4000000 in
set_option maxRecDepth 100000 in
theorem c_X5_multiply (l : Launch) (hst : l.stackTraces = false) (dC : Nat → ClassId) (dI : Nat → Nat → Nat) (cI cJ : ClassId) (ad : Nat → Nat) (hi : fI 23 ad) (sz : Nat) (Bc : Nat → Int64) (Bl : Nat → Int32) (Pk : Nat → Int32) (Pr : Nat → Int32) (Pl : Nat → Int32) (Pc : Nat → Int64) (Pm : Int32) (Gf : Nat → Int32) (Gt : Nat → Int32) (Gx : Nat → Int32) (Gd : Int32) (Gm : Int32) (Ek : Nat → Int32) (Er : Nat → Int32) (Ea : Nat → Int32) (Ex : Nat → Int32) (Em : Int32) (Eb : Int32) (Et : Int32) (Ss : Nat → Int32) (Sm : Int32) (Wg : Nat → Int64) (Wr : Nat → Int64) (Md : Nat → Int64) (a0 : Int32) (a1 : Int32) (a2 : Int64) (a3 : Int32) (hs : S_X5_multiply a0 a1 a2 a3 Bc Bl Pk Pr Pl Pc Pm Gd Md) : vx_Met l yX5_multiply (mW yX5_multiply cX5_multiply 6 (some .int)) { frames := 7, cells := 3, slots := 18, locals := 116 } (va_Pc [.ref (ad 0), .int a0, .int a1, .long a2, .int a3] (fun U => U.heap.size = sz ∧ va_P (dC, dI) vwCl (wC ad cI cJ Bc Bl Pk Pr Pl Pc Pm Gf Gt Gx Gd Gm Ek Er Ea Ex Em Eb Et Ss Sm Wg Wr Md) U.heap ∧ va_K (dC, dI) vwCl [(cI, .int), (cJ, .long)] U ∧ cxt (fA 23 ad sz) U U.heap)) (va_Qi (fun (r : Int32) (_ : Unit) => (f_X5_multiply a0 a1 a2 a3 Bc Bl Pk Pr Pl Pc Pm Gd Md).1 = 0 ∧ r = (f_X5_multiply a0 a1 a2 a3 Bc Bl Pk Pr Pl Pc Pm Gd Md).2.1) (fun _ t => va_P (dC, dI) vwCl (wC ad cI cJ ((f_X5_multiply a0 a1 a2 a3 Bc Bl Pk Pr Pl Pc Pm Gd Md).2.2.1) ((f_X5_multiply a0 a1 a2 a3 Bc Bl Pk Pr Pl Pc Pm Gd Md).2.2.2.1) ((f_X5_multiply a0 a1 a2 a3 Bc Bl Pk Pr Pl Pc Pm Gd Md).2.2.2.2.1) ((f_X5_multiply a0 a1 a2 a3 Bc Bl Pk Pr Pl Pc Pm Gd Md).2.2.2.2.2.1) ((f_X5_multiply a0 a1 a2 a3 Bc Bl Pk Pr Pl Pc Pm Gd Md).2.2.2.2.2.2.1) ((f_X5_multiply a0 a1 a2 a3 Bc Bl Pk Pr Pl Pc Pm Gd Md).2.2.2.2.2.2.2.1) ((f_X5_multiply a0 a1 a2 a3 Bc Bl Pk Pr Pl Pc Pm Gd Md).2.2.2.2.2.2.2.2.1) Gf Gt Gx Gd Gm Ek Er Ea Ex Em Eb Et Ss Sm Wg Wr ((f_X5_multiply a0 a1 a2 a3 Bc Bl Pk Pr Pl Pc Pm Gd Md).2.2.2.2.2.2.2.2.2)) t.heap) (fA 23 ad sz)) (vx_X (fun _ : Unit => ¬ (f_X5_multiply a0 a1 a2 a3 Bc Bl Pk Pr Pl Pc Pm Gd Md).1 = 0) (fun E _ t => E = exN ((f_X5_multiply a0 a1 a2 a3 Bc Bl Pk Pr Pl Pc Pm Gd Md).1) ∧ va_P (dC, dI) vwCl (wC ad cI cJ ((f_X5_multiply a0 a1 a2 a3 Bc Bl Pk Pr Pl Pc Pm Gd Md).2.2.1) ((f_X5_multiply a0 a1 a2 a3 Bc Bl Pk Pr Pl Pc Pm Gd Md).2.2.2.1) ((f_X5_multiply a0 a1 a2 a3 Bc Bl Pk Pr Pl Pc Pm Gd Md).2.2.2.2.1) ((f_X5_multiply a0 a1 a2 a3 Bc Bl Pk Pr Pl Pc Pm Gd Md).2.2.2.2.2.1) ((f_X5_multiply a0 a1 a2 a3 Bc Bl Pk Pr Pl Pc Pm Gd Md).2.2.2.2.2.2.1) ((f_X5_multiply a0 a1 a2 a3 Bc Bl Pk Pr Pl Pc Pm Gd Md).2.2.2.2.2.2.2.1) ((f_X5_multiply a0 a1 a2 a3 Bc Bl Pk Pr Pl Pc Pm Gd Md).2.2.2.2.2.2.2.2.1) Gf Gt Gx Gd Gm Ek Er Ea Ex Em Eb Et Ss Sm Wg Wr ((f_X5_multiply a0 a1 a2 a3 Bc Bl Pk Pr Pl Pc Pm Gd Md).2.2.2.2.2.2.2.2.2)) t.heap) (fA 23 ad sz)) 3 18 (fA 23 ad sz) := by
  refine vx_ofW (cc := cX5_multiply) (maxL := 6) (ret := (some .int)) (by decide) rfl ?_
  intro p e s m args below meth c s₁ B hml ht hv
  obtain ⟨rfl, hsz, hP, hK, hC⟩ := hv
  have hx := B.exec
  have hb := B.bytes
  have hr := B.returns
  have hts := mW_hts (atoms_spec (ws := (mW yX5_multiply cX5_multiply 6 (some .int))) B.pre)
  have hown : s.vm.findClass RX5 = some m.cls := findClass_of_methodNamed B.named
  have hlocks := B.notSynchronized
  subst hsz
  have hA : ∀ (n : Nat) (q : Nat), s.heap.size ≤ n → n ≤ q → fA 23 ad s.heap.size q := fun n q h1 h2 => Or.inr (Nat.le_trans h1 h2)
  have hS : va_S (fA 23 ad s.heap.size) s.heap s.heap [] := va_S.rf
  have hA : ∀ q, s.heap.size ≤ q → (fA 23 ad s.heap.size) q := fun q h => Or.inr h
  unfold S_X5_multiply at hs
  have hl := lv_entry ([.ref (ad 0), .int a0, .int a1, .long a2, .int a3]) (n := 6) (Nat.le_of_ble_eq_true rfl)
  rw [lg_entry_eq]
  generalize (lg_sl ([.ref (ad 0), .int a0, .int a1, .long a2, .int a3]) ++ List.replicate (6 - (lg_sl ([.ref (ad 0), .int a0, .int a1, .long a2, .int a3])).length) Slot.unset).toArray = ls at hl ⊢
  have hl : lv_has ls 6 [(0, .ref (ad 0)), (1, .int a0), (2, .int a1), (3, .long a2), (5, .int a3)] := hl
  refine W_gen (fun Q9 hQ9 => ?_)
  refine lv_iload_n hx hb dX5_multiply_0 rfl (lv_at hl 1 rfl) ?_
  refine lv_iconst (v := 2) hx hb dX5_multiply_1 (by decide) ?_
  obtain ⟨u1, hu1⟩ : ∃ z, z = f_X5_checkKind a0 (2 : Int32) := ⟨_, rfl⟩
  have hs := hs u1 hu1
  refine q_X5_checkKind hst hx hb hml hown hts mM_RX5_77 ⟨Nat.le_of_ble_eq_true rfl, Nat.le_of_ble_eq_true rfl⟩ ⟨Nat.le_of_ble_eq_true rfl, Nat.le_of_ble_eq_true rfl⟩ hl.1 (Nat.le_of_ble_eq_true rfl) hS dX5_multiply_2 hA hC a0 (2 : Int32) u1 hu1 (fun hE c2 H locs hk hz hS ce q9 h71 h72 h73 => ?_) (fun c2 locs hS => ?_)
  · have hP := hP.kept (H1 := H) (fun k z hkz => hk z.1 (hP k z hkz).lt)
    rw [hQ9]
    have hf : f_X5_multiply a0 a1 a2 a3 Bc Bl Pk Pr Pl Pc Pm Gd Md = (u1, 0, Bc, Bl, Pk, Pr, Pl, Pc, Pm, Md) := by simp only [f_X5_multiply, ← hu1, if_neg c2]
    refine vx_widen (k := 3) (n := 18) (Nat.le_of_ble_eq_true rfl) (Nat.le_of_ble_eq_true rfl) (vx_out (fun x hx => (ht x hx).elim) hlocks h71 h72 h73 (fun t hh hv => ⟨(), by rw [hf]; exact c2, ⟨by rw [hf]; exact hE, by rw [hf]; show va_P (dC, dI) vwCl _ t.heap; rw [hh]; exact hP⟩, hS.F hh⟩) hS.2.2 (Nat.le_of_ble_eq_true rfl) (Nat.le_of_ble_eq_true rfl))
  · have hs := hs c2
    refine lv_iload_n hx hb dX5_multiply_5 rfl (lv_at hl 2 rfl) ?_
    refine lv_i2l hx hb dX5_multiply_6 rfl ?_
    obtain ⟨u3, hu3⟩ : ∃ z, z = f_X5_checkRegister a1.toInt64 := ⟨_, rfl⟩
    have hs := hs u3 hu3
    refine q_X5_checkRegister hst hx hb hml hown hts mM_RX5_87 ⟨Nat.le_of_ble_eq_true rfl, Nat.le_of_ble_eq_true rfl⟩ ⟨Nat.le_of_ble_eq_true rfl, Nat.le_of_ble_eq_true rfl⟩ hl.1 (Nat.le_of_ble_eq_true rfl) hS dX5_multiply_7 hA hC a1.toInt64 u3 hu3 (fun hE c4 H locs hk hz hS ce q9 h71 h72 h73 => ?_) (fun c4 locs hS => ?_)
    · have hP := hP.kept (H1 := H) (fun k z hkz => hk z.1 (hP k z hkz).lt)
      rw [hQ9]
      have hf : f_X5_multiply a0 a1 a2 a3 Bc Bl Pk Pr Pl Pc Pm Gd Md = (u3, 0, Bc, Bl, Pk, Pr, Pl, Pc, Pm, Md) := by simp only [f_X5_multiply, ← hu1, if_pos c2, ← hu3, if_neg c4]
      refine vx_widen (k := 3) (n := 18) (Nat.le_of_ble_eq_true rfl) (Nat.le_of_ble_eq_true rfl) (vx_out (fun x hx => (ht x hx).elim) hlocks h71 h72 h73 (fun t hh hv => ⟨(), by rw [hf]; exact c4, ⟨by rw [hf]; exact hE, by rw [hf]; show va_P (dC, dI) vwCl _ t.heap; rw [hh]; exact hP⟩, hS.F hh⟩) hS.2.2 (Nat.le_of_ble_eq_true rfl) (Nat.le_of_ble_eq_true rfl))
    · have hs := hs c4
      refine lv_lload_n hx hb dX5_multiply_10 rfl (lv_at hl 3 rfl) ?_
      refine q_X5_isCount hx hb hml hown hts mM_RX5_126 ⟨Nat.le_of_ble_eq_true rfl, Nat.le_of_ble_eq_true rfl⟩ ⟨Nat.le_of_ble_eq_true rfl, Nat.le_of_ble_eq_true rfl⟩ hl.1 (Nat.le_of_ble_eq_true rfl) hS dX5_multiply_11 hA a2 (fun locs hS => ?_)
      refine lv_if_ne (tgt := 19) hx hb dX5_multiply_14 (by decide) (fun c5 => ?_) (fun c5 => ?_)
      · have hs := hs.2 c5
        refine lv_aload_n hx hb dX5_multiply_19 rfl (lv_at hl 0 rfl) ?_
        refine va_get (D := (dC, dI)) (ci := 7) (v := .ref (ad 1)) (C := RX5) (T := TX5) (N := 8) hx hb hts iW_X5 hown hK hP 0 rfl rfl 0 (by decide) (hts _ mF_RX5_10) (fun _ h9 => h9) rfl dX5_multiply_20 ?_
        refine lv_aload_n hx hb dX5_multiply_23 rfl (lv_at hl 0 rfl) ?_
        refine va_get (D := (dC, dI)) (ci := 7) (v := .ref (ad 22)) (C := RX5) (T := TX5) (N := 8) hx hb hts iW_X5 hown hK hP 0 rfl rfl 7 (by decide) (hts _ mF_RX5_51) (fun _ h9 => h9) rfl dX5_multiply_24 ?_
        refine lv_iload_n hx hb dX5_multiply_27 rfl (lv_at hl 1 rfl) ?_
        refine lv_iload_n hx hb dX5_multiply_28 rfl (lv_at hl 2 rfl) ?_
        obtain ⟨h6, hs⟩ := hs
        obtain ⟨u7, hu7⟩ : ∃ z, z = f_X0_copyTo a0 a1 Bc Md := ⟨_, rfl⟩
        have hs := hs u7 hu7
        refine q_X0_copyTo hx hb hml hown hts mM_RX5_115 ⟨Nat.le_of_ble_eq_true rfl, Nat.le_of_ble_eq_true rfl⟩ ⟨Nat.le_of_ble_eq_true rfl, Nat.le_of_ble_eq_true rfl⟩ hl.1 (Nat.le_of_ble_eq_true rfl) hS dX5_multiply_29 (fun _ h9 => fA_mono hS.1 h9) hi hK hP hC a0 a1 h6 u7 hu7 (fun H locs hP hS => ?_)
        refine lv_aload_n hx hb dX5_multiply_32 rfl (lv_at hl 0 rfl) ?_
        refine va_get (D := (dC, dI)) (ci := 7) (v := .ref (ad 22)) (C := RX5) (T := TX5) (N := 8) hx hb hts iW_X5 hown hK hP 0 rfl rfl 7 (by decide) (hts _ mF_RX5_51) (fun _ h9 => h9) rfl dX5_multiply_33 ?_
        refine lv_iconst (v := 0) hx hb dX5_multiply_36 (by decide) ?_
        refine lv_dup2_11 hx hb dX5_multiply_37 rfl rfl ?_
        obtain ⟨h8, hs⟩ := hs
        refine va_lald hx hb hK hP 22 1 rfl rfl h8 dX5_multiply_38 ?_
        refine lv_lload_n hx hb dX5_multiply_39 rfl (lv_at hl 3 rfl) ?_
        refine lv_lmul hx hb dX5_multiply_40 ?_
        obtain ⟨h9, hs⟩ := hs
        refine va_last hx hb hK hP (fA_D hi rfl) hS 22 1 rfl rfl h9 dX5_multiply_41 (fun H locs hP _ hS => ?_)
        have hP : va_P (dC, dI) vwCl (wC ad cI cJ Bc Bl Pk Pr Pl Pc Pm Gf Gt Gx Gd Gm Ek Er Ea Ex Em Eb Et Ss Sm Wg Wr (vp_updL u7 (0 : Int32).toNatClampNeg ((u7 (0 : Int32).toNatClampNeg) * a2))) H := hP
        refine lv_iload_n hx hb dX5_multiply_42 rfl (lv_at hl 1 rfl) ?_
        refine lv_iconst (v := 2) hx hb dX5_multiply_43 (by decide) ?_
        refine lv_icmp_ne (tgt := 67) hx hb dX5_multiply_44 (by decide) (fun c10 => ?_) (fun c10 => ?_)
        · have hs := hs.2 c10
          refine lv_aload_n hx hb dX5_multiply_67 rfl (lv_at hl 0 rfl) ?_
          refine lv_iload_n hx hb dX5_multiply_68 rfl (lv_at hl 1 rfl) ?_
          refine lv_iload_n hx hb dX5_multiply_69 rfl (lv_at hl 2 rfl) ?_
          refine lv_iload hx hb dX5_multiply_70 (lv_at hl 4 rfl) ?_
          obtain ⟨h11, hs⟩ := hs
          obtain ⟨u12, hu12⟩ : ∃ z, z = f_X5_putMade a0 a1 a3 Bc Bl Pk Pr Pl Pc Pm Gd (vp_updL u7 (0 : Int32).toNatClampNeg ((u7 (0 : Int32).toNatClampNeg) * a2)) := ⟨_, rfl⟩
          have hs := hs u12 hu12
          refine q_X5_putMade hst hx hb hml hown hts mM_RX5_95 ⟨Nat.le_of_ble_eq_true rfl, Nat.le_of_ble_eq_true rfl⟩ ⟨Nat.le_of_ble_eq_true rfl, Nat.le_of_ble_eq_true rfl⟩ hl.1 (Nat.le_of_ble_eq_true rfl) hS dX5_multiply_72 (fun _ h9 => fA_mono hS.1 h9) hi hK hP hC a0 a1 a3 h11 u12 hu12 (fun hE c13 H locs hP hS ce q9 h71 h72 h73 => ?_) (fun c13 H locs hP hS => ?_)
          · rw [hQ9]
            have hf : f_X5_multiply a0 a1 a2 a3 Bc Bl Pk Pr Pl Pc Pm Gd Md = (u12.1, 0, u12.2.2.1, u12.2.2.2.1, u12.2.2.2.2.1, u12.2.2.2.2.2.1, u12.2.2.2.2.2.2.1, u12.2.2.2.2.2.2.2.1, u12.2.2.2.2.2.2.2.2, (vp_updL u7 (0 : Int32).toNatClampNeg ((u7 (0 : Int32).toNatClampNeg) * a2))) := by simp only [f_X5_multiply, ← hu1, if_pos c2, ← hu3, if_pos c4, if_neg c5, ← hu7, if_neg c10, ← hu12, if_neg c13]
            refine vx_widen (k := 3) (n := 18) (Nat.le_of_ble_eq_true rfl) (Nat.le_of_ble_eq_true rfl) (vx_out (fun x hx => (ht x hx).elim) hlocks h71 h72 h73 (fun t hh hv => ⟨(), by rw [hf]; exact c13, ⟨by rw [hf]; exact hE, by rw [hf]; show va_P (dC, dI) vwCl _ t.heap; rw [hh]; exact hP⟩, hS.F hh⟩) hS.2.2 (Nat.le_of_ble_eq_true rfl) (Nat.le_of_ble_eq_true rfl))
          · have hs := hs c13
            rw [hQ9]
            have hf : f_X5_multiply a0 a1 a2 a3 Bc Bl Pk Pr Pl Pc Pm Gd Md = (0, u12.2.1, u12.2.2.1, u12.2.2.2.1, u12.2.2.2.2.1, u12.2.2.2.2.2.1, u12.2.2.2.2.2.2.1, u12.2.2.2.2.2.2.2.1, u12.2.2.2.2.2.2.2.2, (vp_updL u7 (0 : Int32).toNatClampNeg ((u7 (0 : Int32).toNatClampNeg) * a2))) := by simp only [f_X5_multiply, ← hu1, if_pos c2, ← hu3, if_pos c4, if_neg c5, ← hu7, if_neg c10, ← hu12, if_pos c13]
            refine vx_ret ?_
            exact W.iret (v := u12.2.1) hx hb hr (fun t ht hW => ⟨⟨u12.2.1, (), rfl, ⟨by rw [hf], by rw [hf]⟩, by rw [hf]; show va_P (dC, dI) vwCl _ t.heap; rw [ht]; exact hP⟩, hS.F ht⟩) hS.2.2 dX5_multiply_75
        · have hs := hs.1 c10
          refine lv_aload_n hx hb dX5_multiply_47 rfl (lv_at hl 0 rfl) ?_
          refine va_get (D := (dC, dI)) (ci := 7) (v := .ref (ad 22)) (C := RX5) (T := TX5) (N := 8) hx hb hts iW_X5 hown hK hP 0 rfl rfl 7 (by decide) (hts _ mF_RX5_51) (fun _ h9 => h9) rfl dX5_multiply_48 ?_
          refine lv_iconst (v := 1) hx hb dX5_multiply_51 (by decide) ?_
          refine lv_dup2_11 hx hb dX5_multiply_52 rfl rfl ?_
          obtain ⟨h14, hs⟩ := hs
          refine va_lald hx hb hK hP 22 1 rfl rfl h14 dX5_multiply_53 ?_
          refine lv_lload_n hx hb dX5_multiply_54 rfl (lv_at hl 3 rfl) ?_
          refine lv_lmul hx hb dX5_multiply_55 ?_
          obtain ⟨h15, hs⟩ := hs
          refine va_last hx hb hK hP (fA_D hi rfl) hS 22 1 rfl rfl h15 dX5_multiply_56 (fun H locs hP _ hS => ?_)
          have hP : va_P (dC, dI) vwCl (wC ad cI cJ Bc Bl Pk Pr Pl Pc Pm Gf Gt Gx Gd Gm Ek Er Ea Ex Em Eb Et Ss Sm Wg Wr (vp_updL (vp_updL u7 (0 : Int32).toNatClampNeg ((u7 (0 : Int32).toNatClampNeg) * a2)) (1 : Int32).toNatClampNeg (((vp_updL u7 (0 : Int32).toNatClampNeg ((u7 (0 : Int32).toNatClampNeg) * a2)) (1 : Int32).toNatClampNeg) * a2))) H := hP
          refine lv_aload_n hx hb dX5_multiply_57 rfl (lv_at hl 0 rfl) ?_
          refine va_get (D := (dC, dI)) (ci := 7) (v := .ref (ad 22)) (C := RX5) (T := TX5) (N := 8) hx hb hts iW_X5 hown hK hP 0 rfl rfl 7 (by decide) (hts _ mF_RX5_51) (fun _ h9 => h9) rfl dX5_multiply_58 ?_
          refine lv_iconst (v := 3) hx hb dX5_multiply_61 (by decide) ?_
          refine lv_dup2_11 hx hb dX5_multiply_62 rfl rfl ?_
          obtain ⟨h16, hs⟩ := hs
          refine va_lald hx hb hK hP 22 1 rfl rfl h16 dX5_multiply_63 ?_
          refine lv_lload_n hx hb dX5_multiply_64 rfl (lv_at hl 3 rfl) ?_
          refine lv_lmul hx hb dX5_multiply_65 ?_
          obtain ⟨h17, hs⟩ := hs
          refine va_last hx hb hK hP (fA_D hi rfl) hS 22 1 rfl rfl h17 dX5_multiply_66 (fun H locs hP _ hS => ?_)
          have hP : va_P (dC, dI) vwCl (wC ad cI cJ Bc Bl Pk Pr Pl Pc Pm Gf Gt Gx Gd Gm Ek Er Ea Ex Em Eb Et Ss Sm Wg Wr (vp_updL (vp_updL (vp_updL u7 (0 : Int32).toNatClampNeg ((u7 (0 : Int32).toNatClampNeg) * a2)) (1 : Int32).toNatClampNeg (((vp_updL u7 (0 : Int32).toNatClampNeg ((u7 (0 : Int32).toNatClampNeg) * a2)) (1 : Int32).toNatClampNeg) * a2)) (3 : Int32).toNatClampNeg (((vp_updL (vp_updL u7 (0 : Int32).toNatClampNeg ((u7 (0 : Int32).toNatClampNeg) * a2)) (1 : Int32).toNatClampNeg (((vp_updL u7 (0 : Int32).toNatClampNeg ((u7 (0 : Int32).toNatClampNeg) * a2)) (1 : Int32).toNatClampNeg) * a2)) (3 : Int32).toNatClampNeg) * a2))) H := hP
          refine lv_aload_n hx hb dX5_multiply_67 rfl (lv_at hl 0 rfl) ?_
          refine lv_iload_n hx hb dX5_multiply_68 rfl (lv_at hl 1 rfl) ?_
          refine lv_iload_n hx hb dX5_multiply_69 rfl (lv_at hl 2 rfl) ?_
          refine lv_iload hx hb dX5_multiply_70 (lv_at hl 4 rfl) ?_
          obtain ⟨h18, hs⟩ := hs
          obtain ⟨u19, hu19⟩ : ∃ z, z = f_X5_putMade a0 a1 a3 Bc Bl Pk Pr Pl Pc Pm Gd (vp_updL (vp_updL (vp_updL u7 (0 : Int32).toNatClampNeg ((u7 (0 : Int32).toNatClampNeg) * a2)) (1 : Int32).toNatClampNeg (((vp_updL u7 (0 : Int32).toNatClampNeg ((u7 (0 : Int32).toNatClampNeg) * a2)) (1 : Int32).toNatClampNeg) * a2)) (3 : Int32).toNatClampNeg (((vp_updL (vp_updL u7 (0 : Int32).toNatClampNeg ((u7 (0 : Int32).toNatClampNeg) * a2)) (1 : Int32).toNatClampNeg (((vp_updL u7 (0 : Int32).toNatClampNeg ((u7 (0 : Int32).toNatClampNeg) * a2)) (1 : Int32).toNatClampNeg) * a2)) (3 : Int32).toNatClampNeg) * a2)) := ⟨_, rfl⟩
          have hs := hs u19 hu19
          refine q_X5_putMade hst hx hb hml hown hts mM_RX5_95 ⟨Nat.le_of_ble_eq_true rfl, Nat.le_of_ble_eq_true rfl⟩ ⟨Nat.le_of_ble_eq_true rfl, Nat.le_of_ble_eq_true rfl⟩ hl.1 (Nat.le_of_ble_eq_true rfl) hS dX5_multiply_72 (fun _ h9 => fA_mono hS.1 h9) hi hK hP hC a0 a1 a3 h18 u19 hu19 (fun hE c20 H locs hP hS ce q9 h71 h72 h73 => ?_) (fun c20 H locs hP hS => ?_)
          · rw [hQ9]
            have hf : f_X5_multiply a0 a1 a2 a3 Bc Bl Pk Pr Pl Pc Pm Gd Md = (u19.1, 0, u19.2.2.1, u19.2.2.2.1, u19.2.2.2.2.1, u19.2.2.2.2.2.1, u19.2.2.2.2.2.2.1, u19.2.2.2.2.2.2.2.1, u19.2.2.2.2.2.2.2.2, (vp_updL (vp_updL (vp_updL u7 (0 : Int32).toNatClampNeg ((u7 (0 : Int32).toNatClampNeg) * a2)) (1 : Int32).toNatClampNeg (((vp_updL u7 (0 : Int32).toNatClampNeg ((u7 (0 : Int32).toNatClampNeg) * a2)) (1 : Int32).toNatClampNeg) * a2)) (3 : Int32).toNatClampNeg (((vp_updL (vp_updL u7 (0 : Int32).toNatClampNeg ((u7 (0 : Int32).toNatClampNeg) * a2)) (1 : Int32).toNatClampNeg (((vp_updL u7 (0 : Int32).toNatClampNeg ((u7 (0 : Int32).toNatClampNeg) * a2)) (1 : Int32).toNatClampNeg) * a2)) (3 : Int32).toNatClampNeg) * a2))) := by simp only [f_X5_multiply, ← hu1, if_pos c2, ← hu3, if_pos c4, if_neg c5, ← hu7, if_pos c10, ← hu19, if_neg c20]
            refine vx_widen (k := 3) (n := 18) (Nat.le_of_ble_eq_true rfl) (Nat.le_of_ble_eq_true rfl) (vx_out (fun x hx => (ht x hx).elim) hlocks h71 h72 h73 (fun t hh hv => ⟨(), by rw [hf]; exact c20, ⟨by rw [hf]; exact hE, by rw [hf]; show va_P (dC, dI) vwCl _ t.heap; rw [hh]; exact hP⟩, hS.F hh⟩) hS.2.2 (Nat.le_of_ble_eq_true rfl) (Nat.le_of_ble_eq_true rfl))
          · have hs := hs c20
            rw [hQ9]
            have hf : f_X5_multiply a0 a1 a2 a3 Bc Bl Pk Pr Pl Pc Pm Gd Md = (0, u19.2.1, u19.2.2.1, u19.2.2.2.1, u19.2.2.2.2.1, u19.2.2.2.2.2.1, u19.2.2.2.2.2.2.1, u19.2.2.2.2.2.2.2.1, u19.2.2.2.2.2.2.2.2, (vp_updL (vp_updL (vp_updL u7 (0 : Int32).toNatClampNeg ((u7 (0 : Int32).toNatClampNeg) * a2)) (1 : Int32).toNatClampNeg (((vp_updL u7 (0 : Int32).toNatClampNeg ((u7 (0 : Int32).toNatClampNeg) * a2)) (1 : Int32).toNatClampNeg) * a2)) (3 : Int32).toNatClampNeg (((vp_updL (vp_updL u7 (0 : Int32).toNatClampNeg ((u7 (0 : Int32).toNatClampNeg) * a2)) (1 : Int32).toNatClampNeg (((vp_updL u7 (0 : Int32).toNatClampNeg ((u7 (0 : Int32).toNatClampNeg) * a2)) (1 : Int32).toNatClampNeg) * a2)) (3 : Int32).toNatClampNeg) * a2))) := by simp only [f_X5_multiply, ← hu1, if_pos c2, ← hu3, if_pos c4, if_neg c5, ← hu7, if_pos c10, ← hu19, if_pos c20]
            refine vx_ret ?_
            exact W.iret (v := u19.2.1) hx hb hr (fun t ht hW => ⟨⟨u19.2.1, (), rfl, ⟨by rw [hf], by rw [hf]⟩, by rw [hf]; show va_P (dC, dI) vwCl _ t.heap; rw [ht]; exact hP⟩, hS.F ht⟩) hS.2.2 dX5_multiply_75
      · have hs := hs.1 c5
        refine lv_iconst (v := 0) hx hb dX5_multiply_17 (by decide) ?_
        rw [hQ9]
        have hf : f_X5_multiply a0 a1 a2 a3 Bc Bl Pk Pr Pl Pc Pm Gd Md = (0, (0 : Int32), Bc, Bl, Pk, Pr, Pl, Pc, Pm, Md) := by simp only [f_X5_multiply, ← hu1, if_pos c2, ← hu3, if_pos c4, if_pos c5]
        refine vx_ret ?_
        refine W.widen (k := 3) (n := 18) (Nat.le_of_ble_eq_true rfl) (Nat.le_of_ble_eq_true rfl) ?_
        exact W.iret (v := (0 : Int32)) hx hb hr (fun t ht hW => ⟨⟨(0 : Int32), (), rfl, ⟨by rw [hf], by rw [hf]⟩, by rw [hf]; show va_P (dC, dI) vwCl _ t.heap; rw [ht]; exact hP⟩, hS.F ht⟩) hS.2.2 dX5_multiply_18
theorem q_X5_multiply {p : Program} {l : Launch} {e : Env} {R : Room} {s : State} {m : MethodId} {args : Array Value} {below : List Frame} {meth : Method} {c : Code} {H : Heap} {locs : List Loc} {cells slots : Nat} {Q : State → Prop} {pc : Nat} {ls : Array Slot} {rest : List Value} {cc : ByteArray} {nL idx : Nat} {own : String} {A0 : Nat → Prop} {dC : Nat → ClassId} {dI : Nat → Nat → Nat} {cI cJ : ClassId} {ad : Nat → Nat} {Bc : Nat → Int64} {Bl : Nat → Int32} {Pk : Nat → Int32} {Pr : Nat → Int32} {Pl : Nat → Int32} {Pc : Nat → Int64} {Pm : Int32} {Gf : Nat → Int32} {Gt : Nat → Int32} {Gx : Nat → Int32} {Gd : Int32} {Gm : Int32} {Ek : Nat → Int32} {Er : Nat → Int32} {Ea : Nat → Int32} {Ex : Nat → Int32} {Em : Int32} {Eb : Int32} {Et : Int32} {Ss : Nat → Int32} {Sm : Int32} {Wg : Nat → Int64} {Wr : Nat → Int64} {Md : Nat → Int64} (hst : l.stackTraces = false) (hx : p.tables.exec = Jvm.exec) (hb : c.code = cc) (hml : c.maxLocals = nL) (hown : s.vm.findClass own = some m.cls) (hts : ∀ w ∈ bigW, w.before args s = true) (hlk : Cond.methodLink own idx yX5_multiply ∈ bigW) (hR : 8 ≤ R.frames ∧ 141 ≤ R.locals) (hf : cells + 3 ≤ R.cells ∧ slots + 18 ≤ R.slots) (hz : ls.size = nL) (hw : (rest.map fun v => v.category).sum ≤ 8) (hS : va_S A0 s.heap H locs) (hd : decode cc pc = .ok (.invokevirtual idx, 3)) (hA : ∀ q, fA 23 ad H.size q → A0 q) (hi : fI 23 ad) (hK : va_K (dC, dI) vwCl [(cI, .int), (cJ, .long)] s) (hP : va_P (dC, dI) vwCl (wC ad cI cJ Bc Bl Pk Pr Pl Pc Pm Gf Gt Gx Gd Gm Ek Er Ea Ex Em Eb Et Ss Sm Wg Wr Md) H) (hC : cxt A0 s s.heap) (a0 : Int32) (a1 : Int32) (a2 : Int64) (a3 : Int32) (hs : S_X5_multiply a0 a1 a2 a3 Bc Bl Pk Pr Pl Pc Pm Gd Md)  (u : Nat × Int32 × (Nat → Int64) × (Nat → Int32) × (Nat → Int32) × (Nat → Int32) × (Nat → Int32) × (Nat → Int64) × Int32 × (Nat → Int64)) (hu : u = f_X5_multiply a0 a1 a2 a3 Bc Bl Pk Pr Pl Pc Pm Gd Md) (kx : ∀ {E : String} (hE : E = exN u.1) (ho : ¬ u.1 = 0) (H1 : Heap) (locs1 : List Loc), va_P (dC, dI) vwCl (wC ad cI cJ u.2.2.1 u.2.2.2.1 u.2.2.2.2.1 u.2.2.2.2.2.1 u.2.2.2.2.2.2.1 u.2.2.2.2.2.2.2.1 u.2.2.2.2.2.2.2.2.1 Gf Gt Gx Gd Gm Ek Er Ea Ex Em Eb Et Ss Sm Wg Wr u.2.2.2.2.2.2.2.2.2) H1 → va_S A0 s.heap H1 locs1 → ∀ (ce : Cell) (q9 : Addr), H1[q9]? = some ce → ce.vm = .none → s.vm.findClass E = some ce.cls → vx_W p l e R s m args below meth c H1 locs1 (cells + 3) (slots + 18) Q (F0 m pc ls rest) q9) (k : u.1 = 0 → ∀ (H1 : Heap) (locs1 : List Loc), va_P (dC, dI) vwCl (wC ad cI cJ u.2.2.1 u.2.2.2.1 u.2.2.2.2.1 u.2.2.2.2.2.1 u.2.2.2.2.2.2.1 u.2.2.2.2.2.2.2.1 u.2.2.2.2.2.2.2.2.1 Gf Gt Gx Gd Gm Ek Er Ea Ex Em Eb Et Ss Sm Wg Wr u.2.2.2.2.2.2.2.2.2) H1 → va_S A0 s.heap H1 locs1 → W p l e R s m args below meth c H1 locs1 (cells + 3) (slots + 18) Q (F0 m (pc + 3) ls (.int u.2.1 :: rest))) : W p l e R s m args below meth c H locs cells slots Q (F0 m pc ls (.int a3 :: .long a2 :: .int a1 :: .int a0 :: .ref (ad 0) :: rest)) := by
  subst hu
  exact vx_calli (vx_runV (As := [.int a0, .int a1, .long a2, .int a3]) (rest := rest) ⟨hx, hb, hml, hown, hts⟩ (c_X5_multiply l hst dC dI cI cJ ad hi H.size Bc Bl Pk Pr Pl Pc Pm Gf Gt Gx Gd Gm Ek Er Ea Ex Em Eb Et Ss Sm Wg Wr Md a0 a1 a2 a3 hs) (kV 4 hts hlk mI_X5_multiply mN_RX5 mY_X5_multiply mV_X5_multiply rfl rfl (by decide +kernel) hR) ⟨fun a U g mk q => ⟨q.1, q.2.1, q.2.2.1, va_K.moved (u := U) (U := U.calling g mk a) (Vm.Alike.refl U.vm) q.2.2.2.1, q.2.2.2.2.call⟩, va_recv hK hP (ci := 7) (q0 := 0) rfl rfl, fun U hU hW => ⟨rfl, by rw [hU], by rw [hU]; exact hP, va_K.moved hW.alike hK, hC.here hS hU hW hA⟩⟩ rfl rfl hz rfl (lv_room hw) hd hf) hS (fun q _ h => hA q h) (fun q h => hA q h) (fun q _ h => hA q h) (fun E ce q9 u t H1 locs1 ht hvm hw9 hB hz1 hk1 hS1 h1 h2 h3 => kx hB.1 hw9 H1 locs1 (by rw [← ht]; exact hB.2) hS1 ce q9 h1 h2 h3) (fun r u t H1 locs1 ht hvm hw9 hB hz1 hk1 hS1 => by
    obtain ⟨e1, rfl⟩ := hw9
    exact k e1 H1 locs1 (by rw [← ht]; exact hB) hS1)
theorem qf_X5_multiply {p : Program} {l : Launch} {e : Env} {R : Room} {s : State} {m : MethodId} {args : Array Value} {below : List Frame} {meth : Method} {c : Code} {H : Heap} {locs : List Loc} {cells slots : Nat} {Q : State → Prop} {pc : Nat} {ls : Array Slot} {rest : List Value} {cc : ByteArray} {nL idx : Nat} {own : String} {A0 : Nat → Prop} {dC : Nat → ClassId} {dI : Nat → Nat → Nat} {cI cJ : ClassId} {ad : Nat → Nat} {Bc : Nat → Int64} {Bl : Nat → Int32} {Pk : Nat → Int32} {Pr : Nat → Int32} {Pl : Nat → Int32} {Pc : Nat → Int64} {Pm : Int32} {Gf : Nat → Int32} {Gt : Nat → Int32} {Gx : Nat → Int32} {Gd : Int32} {Gm : Int32} {Ek : Nat → Int32} {Er : Nat → Int32} {Ea : Nat → Int32} {Ex : Nat → Int32} {Em : Int32} {Eb : Int32} {Et : Int32} {Ss : Nat → Int32} {Sm : Int32} {Wg : Nat → Int64} {Wr : Nat → Int64} {Md : Nat → Int64} (hst : l.stackTraces = false) (hx : p.tables.exec = Jvm.exec) (hb : c.code = cc) (hml : c.maxLocals = nL) (hown : s.vm.findClass own = some m.cls) (hts : ∀ w ∈ bigW, w.before args s = true) (hlk : Cond.methodLink own idx yX5_multiply ∈ bigW) (hR : 8 ≤ R.frames ∧ 141 ≤ R.locals) (hf : cells + 3 ≤ R.cells ∧ slots + 18 ≤ R.slots) (hz : ls.size = nL) (hw : (rest.map fun v => v.category).sum ≤ 8) (hS : va_S A0 s.heap H locs) (hd : decode cc pc = .ok (.invokevirtual idx, 3)) (hA : ∀ q, fA 23 ad H.size q → A0 q) (hi : fI 23 ad) (hK : va_K (dC, dI) vwCl [(cI, .int), (cJ, .long)] s) (hP : va_P (dC, dI) vwCl (wC ad cI cJ Bc Bl Pk Pr Pl Pc Pm Gf Gt Gx Gd Gm Ek Er Ea Ex Em Eb Et Ss Sm Wg Wr Md) H) (hC : cxt A0 s s.heap) (a0 : Int32) (a1 : Int32) (a2 : Int64) (a3 : Int32) (hs : S_X5_multiply a0 a1 a2 a3 Bc Bl Pk Pr Pl Pc Pm Gd Md)  (u : Nat × Int32 × (Nat → Int64) × (Nat → Int32) × (Nat → Int32) × (Nat → Int32) × (Nat → Int32) × (Nat → Int64) × Int32 × (Nat → Int64)) (hu : u = f_X5_multiply a0 a1 a2 a3 Bc Bl Pk Pr Pl Pc Pm Gd Md) (kx : ∀ {E : String} (hE : E = exN u.1) (ho : ¬ u.1 = 0) (H1 : Heap) (locs1 : List Loc), va_P (dC, dI) vwCl (wC ad cI cJ u.2.2.1 u.2.2.2.1 u.2.2.2.2.1 u.2.2.2.2.2.1 u.2.2.2.2.2.2.1 u.2.2.2.2.2.2.2.1 u.2.2.2.2.2.2.2.2.1 Gf Gt Gx Gd Gm Ek Er Ea Ex Em Eb Et Ss Sm Wg Wr u.2.2.2.2.2.2.2.2.2) H1 → va_S A0 s.heap H1 locs1 → (∀ q : Nat, q < H.size → ¬ fA 23 ad H.size q → H1[q]? = H[q]?) → H.size ≤ H1.size → ∀ (ce : Cell) (q9 : Addr), H1[q9]? = some ce → ce.vm = .none → s.vm.findClass E = some ce.cls → vx_W p l e R s m args below meth c H1 locs1 (cells + 3) (slots + 18) Q (F0 m pc ls rest) q9) (k : u.1 = 0 → ∀ (H1 : Heap) (locs1 : List Loc), va_P (dC, dI) vwCl (wC ad cI cJ u.2.2.1 u.2.2.2.1 u.2.2.2.2.1 u.2.2.2.2.2.1 u.2.2.2.2.2.2.1 u.2.2.2.2.2.2.2.1 u.2.2.2.2.2.2.2.2.1 Gf Gt Gx Gd Gm Ek Er Ea Ex Em Eb Et Ss Sm Wg Wr u.2.2.2.2.2.2.2.2.2) H1 → va_S A0 s.heap H1 locs1 → (∀ q : Nat, q < H.size → ¬ fA 23 ad H.size q → H1[q]? = H[q]?) → H.size ≤ H1.size → W p l e R s m args below meth c H1 locs1 (cells + 3) (slots + 18) Q (F0 m (pc + 3) ls (.int u.2.1 :: rest))) : W p l e R s m args below meth c H locs cells slots Q (F0 m pc ls (.int a3 :: .long a2 :: .int a1 :: .int a0 :: .ref (ad 0) :: rest)) := by
  subst hu
  exact vx_calli (vx_runV (As := [.int a0, .int a1, .long a2, .int a3]) (rest := rest) ⟨hx, hb, hml, hown, hts⟩ (c_X5_multiply l hst dC dI cI cJ ad hi H.size Bc Bl Pk Pr Pl Pc Pm Gf Gt Gx Gd Gm Ek Er Ea Ex Em Eb Et Ss Sm Wg Wr Md a0 a1 a2 a3 hs) (kV 4 hts hlk mI_X5_multiply mN_RX5 mY_X5_multiply mV_X5_multiply rfl rfl (by decide +kernel) hR) ⟨fun a U g mk q => ⟨q.1, q.2.1, q.2.2.1, va_K.moved (u := U) (U := U.calling g mk a) (Vm.Alike.refl U.vm) q.2.2.2.1, q.2.2.2.2.call⟩, va_recv hK hP (ci := 7) (q0 := 0) rfl rfl, fun U hU hW => ⟨rfl, by rw [hU], by rw [hU]; exact hP, va_K.moved hW.alike hK, hC.here hS hU hW hA⟩⟩ rfl rfl hz rfl (lv_room hw) hd hf) hS (fun q _ h => hA q h) (fun q h => hA q h) (fun q _ h => hA q h) (fun E ce q9 u t H1 locs1 ht hvm hw9 hB hz1 hk1 hS1 h1 h2 h3 => kx hB.1 hw9 H1 locs1 (by rw [← ht]; exact hB.2) hS1 hk1 hz1 ce q9 h1 h2 h3) (fun r u t H1 locs1 ht hvm hw9 hB hz1 hk1 hS1 => by
    obtain ⟨e1, rfl⟩ := hw9
    exact k e1 H1 locs1 (by rw [← ht]; exact hB) hS1 hk1 hz1)

def f_X5_divide (a0 : Int32) (a1 : Int32) (a2 : Int64) (a3 : Int32) (Bc : Nat → Int64) (Bl : Nat → Int32) (Pk : Nat → Int32) (Pr : Nat → Int32) (Pl : Nat → Int32) (Pc : Nat → Int64) (Pm : Int32) (Gd : Int32) (Md : Nat → Int64) : Nat × Int32 × (Nat → Int64) × (Nat → Int32) × (Nat → Int32) × (Nat → Int32) × (Nat → Int32) × (Nat → Int64) × Int32 × (Nat → Int64) := (let u1 := f_X5_checkKind a0 (2 : Int32); (if u1 = 0 then (let u3 := f_X5_checkRegister a1.toInt64; (if u3 = 0 then (if a2 = (0 : Int64) then (5, 0, Bc, Bl, Pk, Pr, Pl, Pc, Pm, Md) else (let u7 := f_X0_copyTo a0 a1 Bc Md; (if a0 = (2 : Int32) then (let u22 := f_X5_putMade a0 a1 a3 Bc Bl Pk Pr Pl Pc Pm Gd (vp_updL (vp_updL (vp_updL u7 (0 : Int32).toNatClampNeg ((u7 (0 : Int32).toNatClampNeg) / a2)) (1 : Int32).toNatClampNeg (((vp_updL u7 (0 : Int32).toNatClampNeg ((u7 (0 : Int32).toNatClampNeg) / a2)) (1 : Int32).toNatClampNeg) / a2)) (3 : Int32).toNatClampNeg (((vp_updL (vp_updL u7 (0 : Int32).toNatClampNeg ((u7 (0 : Int32).toNatClampNeg) / a2)) (1 : Int32).toNatClampNeg (((vp_updL u7 (0 : Int32).toNatClampNeg ((u7 (0 : Int32).toNatClampNeg) / a2)) (1 : Int32).toNatClampNeg) / a2)) (3 : Int32).toNatClampNeg) / a2)); (if u22.1 = 0 then (0, u22.2.1, u22.2.2.1, u22.2.2.2.1, u22.2.2.2.2.1, u22.2.2.2.2.2.1, u22.2.2.2.2.2.2.1, u22.2.2.2.2.2.2.2.1, u22.2.2.2.2.2.2.2.2, (vp_updL (vp_updL (vp_updL u7 (0 : Int32).toNatClampNeg ((u7 (0 : Int32).toNatClampNeg) / a2)) (1 : Int32).toNatClampNeg (((vp_updL u7 (0 : Int32).toNatClampNeg ((u7 (0 : Int32).toNatClampNeg) / a2)) (1 : Int32).toNatClampNeg) / a2)) (3 : Int32).toNatClampNeg (((vp_updL (vp_updL u7 (0 : Int32).toNatClampNeg ((u7 (0 : Int32).toNatClampNeg) / a2)) (1 : Int32).toNatClampNeg (((vp_updL u7 (0 : Int32).toNatClampNeg ((u7 (0 : Int32).toNatClampNeg) / a2)) (1 : Int32).toNatClampNeg) / a2)) (3 : Int32).toNatClampNeg) / a2))) else (u22.1, 0, u22.2.2.1, u22.2.2.2.1, u22.2.2.2.2.1, u22.2.2.2.2.2.1, u22.2.2.2.2.2.2.1, u22.2.2.2.2.2.2.2.1, u22.2.2.2.2.2.2.2.2, (vp_updL (vp_updL (vp_updL u7 (0 : Int32).toNatClampNeg ((u7 (0 : Int32).toNatClampNeg) / a2)) (1 : Int32).toNatClampNeg (((vp_updL u7 (0 : Int32).toNatClampNeg ((u7 (0 : Int32).toNatClampNeg) / a2)) (1 : Int32).toNatClampNeg) / a2)) (3 : Int32).toNatClampNeg (((vp_updL (vp_updL u7 (0 : Int32).toNatClampNeg ((u7 (0 : Int32).toNatClampNeg) / a2)) (1 : Int32).toNatClampNeg (((vp_updL u7 (0 : Int32).toNatClampNeg ((u7 (0 : Int32).toNatClampNeg) / a2)) (1 : Int32).toNatClampNeg) / a2)) (3 : Int32).toNatClampNeg) / a2))))) else (let u13 := f_X5_putMade a0 a1 a3 Bc Bl Pk Pr Pl Pc Pm Gd (vp_updL u7 (0 : Int32).toNatClampNeg ((u7 (0 : Int32).toNatClampNeg) / a2)); (if u13.1 = 0 then (0, u13.2.1, u13.2.2.1, u13.2.2.2.1, u13.2.2.2.2.1, u13.2.2.2.2.2.1, u13.2.2.2.2.2.2.1, u13.2.2.2.2.2.2.2.1, u13.2.2.2.2.2.2.2.2, (vp_updL u7 (0 : Int32).toNatClampNeg ((u7 (0 : Int32).toNatClampNeg) / a2))) else (u13.1, 0, u13.2.2.1, u13.2.2.2.1, u13.2.2.2.2.1, u13.2.2.2.2.2.1, u13.2.2.2.2.2.2.1, u13.2.2.2.2.2.2.2.1, u13.2.2.2.2.2.2.2.2, (vp_updL u7 (0 : Int32).toNatClampNeg ((u7 (0 : Int32).toNatClampNeg) / a2)))))))) else (u3, 0, Bc, Bl, Pk, Pr, Pl, Pc, Pm, Md))) else (u1, 0, Bc, Bl, Pk, Pr, Pl, Pc, Pm, Md)))
def S_X5_divide (a0 : Int32) (a1 : Int32) (a2 : Int64) (a3 : Int32) (Bc : Nat → Int64) (Bl : Nat → Int32) (Pk : Nat → Int32) (Pr : Nat → Int32) (Pl : Nat → Int32) (Pc : Nat → Int64) (Pm : Int32) (Gd : Int32) (Md : Nat → Int64) : Prop := ∀ u1, u1 = f_X5_checkKind a0 (2 : Int32) → (u1 = 0 → (∀ u3, u3 = f_X5_checkRegister a1.toInt64 → (u3 = 0 → ((a2 = (0 : Int64) → (True)) ∧ (¬ a2 = (0 : Int64) → ((S_X0_copyTo a0 a1 Bc Md) ∧ (∀ u7, u7 = f_X0_copyTo a0 a1 Bc Md → ((vp_in (0 : Int32) 21) ∧ ((¬ a2 = 0) ∧ ((vp_in (0 : Int32) 21) ∧ ((a0 = (2 : Int32) → ((vp_in (1 : Int32) 21) ∧ ((¬ a2 = 0) ∧ ((vp_in (1 : Int32) 21) ∧ ((vp_in (3 : Int32) 21) ∧ ((¬ a2 = 0) ∧ ((vp_in (3 : Int32) 21) ∧ ((S_X5_putMade a0 a1 a3 Bc Bl Pk Pr Pl Pc Pm Gd (vp_updL (vp_updL (vp_updL u7 (0 : Int32).toNatClampNeg ((u7 (0 : Int32).toNatClampNeg) / a2)) (1 : Int32).toNatClampNeg (((vp_updL u7 (0 : Int32).toNatClampNeg ((u7 (0 : Int32).toNatClampNeg) / a2)) (1 : Int32).toNatClampNeg) / a2)) (3 : Int32).toNatClampNeg (((vp_updL (vp_updL u7 (0 : Int32).toNatClampNeg ((u7 (0 : Int32).toNatClampNeg) / a2)) (1 : Int32).toNatClampNeg (((vp_updL u7 (0 : Int32).toNatClampNeg ((u7 (0 : Int32).toNatClampNeg) / a2)) (1 : Int32).toNatClampNeg) / a2)) (3 : Int32).toNatClampNeg) / a2))) ∧ (∀ u22, u22 = f_X5_putMade a0 a1 a3 Bc Bl Pk Pr Pl Pc Pm Gd (vp_updL (vp_updL (vp_updL u7 (0 : Int32).toNatClampNeg ((u7 (0 : Int32).toNatClampNeg) / a2)) (1 : Int32).toNatClampNeg (((vp_updL u7 (0 : Int32).toNatClampNeg ((u7 (0 : Int32).toNatClampNeg) / a2)) (1 : Int32).toNatClampNeg) / a2)) (3 : Int32).toNatClampNeg (((vp_updL (vp_updL u7 (0 : Int32).toNatClampNeg ((u7 (0 : Int32).toNatClampNeg) / a2)) (1 : Int32).toNatClampNeg (((vp_updL u7 (0 : Int32).toNatClampNeg ((u7 (0 : Int32).toNatClampNeg) / a2)) (1 : Int32).toNatClampNeg) / a2)) (3 : Int32).toNatClampNeg) / a2)) → (u22.1 = 0 → (True))))))))))) ∧ (¬ a0 = (2 : Int32) → ((S_X5_putMade a0 a1 a3 Bc Bl Pk Pr Pl Pc Pm Gd (vp_updL u7 (0 : Int32).toNatClampNeg ((u7 (0 : Int32).toNatClampNeg) / a2))) ∧ (∀ u13, u13 = f_X5_putMade a0 a1 a3 Bc Bl Pk Pr Pl Pc Pm Gd (vp_updL u7 (0 : Int32).toNatClampNeg ((u7 (0 : Int32).toNatClampNeg) / a2)) → (u13.1 = 0 → (True))))))))))))))))
set_option maxHeartbeats 4000000 in
set_option maxRecDepth 100000 in
theorem c_X5_divide (l : Launch) (hst : l.stackTraces = false) (dC : Nat → ClassId) (dI : Nat → Nat → Nat) (cI cJ : ClassId) (ad : Nat → Nat) (hi : fI 23 ad) (sz : Nat) (Bc : Nat → Int64) (Bl : Nat → Int32) (Pk : Nat → Int32) (Pr : Nat → Int32) (Pl : Nat → Int32) (Pc : Nat → Int64) (Pm : Int32) (Gf : Nat → Int32) (Gt : Nat → Int32) (Gx : Nat → Int32) (Gd : Int32) (Gm : Int32) (Ek : Nat → Int32) (Er : Nat → Int32) (Ea : Nat → Int32) (Ex : Nat → Int32) (Em : Int32) (Eb : Int32) (Et : Int32) (Ss : Nat → Int32) (Sm : Int32) (Wg : Nat → Int64) (Wr : Nat → Int64) (Md : Nat → Int64) (a0 : Int32) (a1 : Int32) (a2 : Int64) (a3 : Int32) (hs : S_X5_divide a0 a1 a2 a3 Bc Bl Pk Pr Pl Pc Pm Gd Md) : vx_Met l yX5_divide (mW yX5_divide cX5_divide 6 (some .int)) { frames := 7, cells := 3, slots := 18, locals := 116 } (va_Pc [.ref (ad 0), .int a0, .int a1, .long a2, .int a3] (fun U => U.heap.size = sz ∧ va_P (dC, dI) vwCl (wC ad cI cJ Bc Bl Pk Pr Pl Pc Pm Gf Gt Gx Gd Gm Ek Er Ea Ex Em Eb Et Ss Sm Wg Wr Md) U.heap ∧ va_K (dC, dI) vwCl [(cI, .int), (cJ, .long)] U ∧ cxt (fA 23 ad sz) U U.heap)) (va_Qi (fun (r : Int32) (_ : Unit) => (f_X5_divide a0 a1 a2 a3 Bc Bl Pk Pr Pl Pc Pm Gd Md).1 = 0 ∧ r = (f_X5_divide a0 a1 a2 a3 Bc Bl Pk Pr Pl Pc Pm Gd Md).2.1) (fun _ t => va_P (dC, dI) vwCl (wC ad cI cJ ((f_X5_divide a0 a1 a2 a3 Bc Bl Pk Pr Pl Pc Pm Gd Md).2.2.1) ((f_X5_divide a0 a1 a2 a3 Bc Bl Pk Pr Pl Pc Pm Gd Md).2.2.2.1) ((f_X5_divide a0 a1 a2 a3 Bc Bl Pk Pr Pl Pc Pm Gd Md).2.2.2.2.1) ((f_X5_divide a0 a1 a2 a3 Bc Bl Pk Pr Pl Pc Pm Gd Md).2.2.2.2.2.1) ((f_X5_divide a0 a1 a2 a3 Bc Bl Pk Pr Pl Pc Pm Gd Md).2.2.2.2.2.2.1) ((f_X5_divide a0 a1 a2 a3 Bc Bl Pk Pr Pl Pc Pm Gd Md).2.2.2.2.2.2.2.1) ((f_X5_divide a0 a1 a2 a3 Bc Bl Pk Pr Pl Pc Pm Gd Md).2.2.2.2.2.2.2.2.1) Gf Gt Gx Gd Gm Ek Er Ea Ex Em Eb Et Ss Sm Wg Wr ((f_X5_divide a0 a1 a2 a3 Bc Bl Pk Pr Pl Pc Pm Gd Md).2.2.2.2.2.2.2.2.2)) t.heap) (fA 23 ad sz)) (vx_X (fun _ : Unit => ¬ (f_X5_divide a0 a1 a2 a3 Bc Bl Pk Pr Pl Pc Pm Gd Md).1 = 0) (fun E _ t => E = exN ((f_X5_divide a0 a1 a2 a3 Bc Bl Pk Pr Pl Pc Pm Gd Md).1) ∧ va_P (dC, dI) vwCl (wC ad cI cJ ((f_X5_divide a0 a1 a2 a3 Bc Bl Pk Pr Pl Pc Pm Gd Md).2.2.1) ((f_X5_divide a0 a1 a2 a3 Bc Bl Pk Pr Pl Pc Pm Gd Md).2.2.2.1) ((f_X5_divide a0 a1 a2 a3 Bc Bl Pk Pr Pl Pc Pm Gd Md).2.2.2.2.1) ((f_X5_divide a0 a1 a2 a3 Bc Bl Pk Pr Pl Pc Pm Gd Md).2.2.2.2.2.1) ((f_X5_divide a0 a1 a2 a3 Bc Bl Pk Pr Pl Pc Pm Gd Md).2.2.2.2.2.2.1) ((f_X5_divide a0 a1 a2 a3 Bc Bl Pk Pr Pl Pc Pm Gd Md).2.2.2.2.2.2.2.1) ((f_X5_divide a0 a1 a2 a3 Bc Bl Pk Pr Pl Pc Pm Gd Md).2.2.2.2.2.2.2.2.1) Gf Gt Gx Gd Gm Ek Er Ea Ex Em Eb Et Ss Sm Wg Wr ((f_X5_divide a0 a1 a2 a3 Bc Bl Pk Pr Pl Pc Pm Gd Md).2.2.2.2.2.2.2.2.2)) t.heap) (fA 23 ad sz)) 3 18 (fA 23 ad sz) := by
  refine vx_ofW (cc := cX5_divide) (maxL := 6) (ret := (some .int)) (by decide) rfl ?_
  intro p e s m args below meth c s₁ B hml ht hv
  obtain ⟨rfl, hsz, hP, hK, hC⟩ := hv
  have hx := B.exec
  have hb := B.bytes
  have hr := B.returns
  have hts := mW_hts (atoms_spec (ws := (mW yX5_divide cX5_divide 6 (some .int))) B.pre)
  have hown : s.vm.findClass RX5 = some m.cls := findClass_of_methodNamed B.named
  have hlocks := B.notSynchronized
  subst hsz
  have hA : ∀ (n : Nat) (q : Nat), s.heap.size ≤ n → n ≤ q → fA 23 ad s.heap.size q := fun n q h1 h2 => Or.inr (Nat.le_trans h1 h2)
  have hS : va_S (fA 23 ad s.heap.size) s.heap s.heap [] := va_S.rf
  have hA : ∀ q, s.heap.size ≤ q → (fA 23 ad s.heap.size) q := fun q h => Or.inr h
  unfold S_X5_divide at hs
  have hl := lv_entry ([.ref (ad 0), .int a0, .int a1, .long a2, .int a3]) (n := 6) (Nat.le_of_ble_eq_true rfl)
  rw [lg_entry_eq]
  generalize (lg_sl ([.ref (ad 0), .int a0, .int a1, .long a2, .int a3]) ++ List.replicate (6 - (lg_sl ([.ref (ad 0), .int a0, .int a1, .long a2, .int a3])).length) Slot.unset).toArray = ls at hl ⊢
  have hl : lv_has ls 6 [(0, .ref (ad 0)), (1, .int a0), (2, .int a1), (3, .long a2), (5, .int a3)] := hl
  refine W_gen (fun Q9 hQ9 => ?_)
  refine lv_iload_n hx hb dX5_divide_0 rfl (lv_at hl 1 rfl) ?_
  refine lv_iconst (v := 2) hx hb dX5_divide_1 (by decide) ?_
  obtain ⟨u1, hu1⟩ : ∃ z, z = f_X5_checkKind a0 (2 : Int32) := ⟨_, rfl⟩
  have hs := hs u1 hu1
  refine q_X5_checkKind hst hx hb hml hown hts mM_RX5_77 ⟨Nat.le_of_ble_eq_true rfl, Nat.le_of_ble_eq_true rfl⟩ ⟨Nat.le_of_ble_eq_true rfl, Nat.le_of_ble_eq_true rfl⟩ hl.1 (Nat.le_of_ble_eq_true rfl) hS dX5_divide_2 hA hC a0 (2 : Int32) u1 hu1 (fun hE c2 H locs hk hz hS ce q9 h71 h72 h73 => ?_) (fun c2 locs hS => ?_)
  · have hP := hP.kept (H1 := H) (fun k z hkz => hk z.1 (hP k z hkz).lt)
    rw [hQ9]
    have hf : f_X5_divide a0 a1 a2 a3 Bc Bl Pk Pr Pl Pc Pm Gd Md = (u1, 0, Bc, Bl, Pk, Pr, Pl, Pc, Pm, Md) := by simp only [f_X5_divide, ← hu1, if_neg c2]
    refine vx_widen (k := 3) (n := 18) (Nat.le_of_ble_eq_true rfl) (Nat.le_of_ble_eq_true rfl) (vx_out (fun x hx => (ht x hx).elim) hlocks h71 h72 h73 (fun t hh hv => ⟨(), by rw [hf]; exact c2, ⟨by rw [hf]; exact hE, by rw [hf]; show va_P (dC, dI) vwCl _ t.heap; rw [hh]; exact hP⟩, hS.F hh⟩) hS.2.2 (Nat.le_of_ble_eq_true rfl) (Nat.le_of_ble_eq_true rfl))
  · have hs := hs c2
    refine lv_iload_n hx hb dX5_divide_5 rfl (lv_at hl 2 rfl) ?_
    refine lv_i2l hx hb dX5_divide_6 rfl ?_
    obtain ⟨u3, hu3⟩ : ∃ z, z = f_X5_checkRegister a1.toInt64 := ⟨_, rfl⟩
    have hs := hs u3 hu3
    refine q_X5_checkRegister hst hx hb hml hown hts mM_RX5_87 ⟨Nat.le_of_ble_eq_true rfl, Nat.le_of_ble_eq_true rfl⟩ ⟨Nat.le_of_ble_eq_true rfl, Nat.le_of_ble_eq_true rfl⟩ hl.1 (Nat.le_of_ble_eq_true rfl) hS dX5_divide_7 hA hC a1.toInt64 u3 hu3 (fun hE c4 H locs hk hz hS ce q9 h71 h72 h73 => ?_) (fun c4 locs hS => ?_)
    · have hP := hP.kept (H1 := H) (fun k z hkz => hk z.1 (hP k z hkz).lt)
      rw [hQ9]
      have hf : f_X5_divide a0 a1 a2 a3 Bc Bl Pk Pr Pl Pc Pm Gd Md = (u3, 0, Bc, Bl, Pk, Pr, Pl, Pc, Pm, Md) := by simp only [f_X5_divide, ← hu1, if_pos c2, ← hu3, if_neg c4]
      refine vx_widen (k := 3) (n := 18) (Nat.le_of_ble_eq_true rfl) (Nat.le_of_ble_eq_true rfl) (vx_out (fun x hx => (ht x hx).elim) hlocks h71 h72 h73 (fun t hh hv => ⟨(), by rw [hf]; exact c4, ⟨by rw [hf]; exact hE, by rw [hf]; show va_P (dC, dI) vwCl _ t.heap; rw [hh]; exact hP⟩, hS.F hh⟩) hS.2.2 (Nat.le_of_ble_eq_true rfl) (Nat.le_of_ble_eq_true rfl))
    · have hs := hs c4
      refine lv_lload_n hx hb dX5_divide_10 rfl (lv_at hl 3 rfl) ?_
      refine lv_lconst (v := 0) hx hb dX5_divide_11 (by decide) ?_
      refine W.lcmp hx hb dX5_divide_12 ?_
      refine lv_if_ne (tgt := 26) hx hb dX5_divide_13 (by decide) (fun c5 => ?_) (fun c5 => ?_)
      · have c5 : ¬ a2 = (0 : Int64) := fun z => c5 (lc_eq.mpr z)
        have hs := hs.2 c5
        refine lv_aload_n hx hb dX5_divide_26 rfl (lv_at hl 0 rfl) ?_
        refine va_get (D := (dC, dI)) (ci := 7) (v := .ref (ad 1)) (C := RX5) (T := TX5) (N := 8) hx hb hts iW_X5 hown hK hP 0 rfl rfl 0 (by decide) (hts _ mF_RX5_10) (fun _ h9 => h9) rfl dX5_divide_27 ?_
        refine lv_aload_n hx hb dX5_divide_30 rfl (lv_at hl 0 rfl) ?_
        refine va_get (D := (dC, dI)) (ci := 7) (v := .ref (ad 22)) (C := RX5) (T := TX5) (N := 8) hx hb hts iW_X5 hown hK hP 0 rfl rfl 7 (by decide) (hts _ mF_RX5_51) (fun _ h9 => h9) rfl dX5_divide_31 ?_
        refine lv_iload_n hx hb dX5_divide_34 rfl (lv_at hl 1 rfl) ?_
        refine lv_iload_n hx hb dX5_divide_35 rfl (lv_at hl 2 rfl) ?_
        obtain ⟨h6, hs⟩ := hs
        obtain ⟨u7, hu7⟩ : ∃ z, z = f_X0_copyTo a0 a1 Bc Md := ⟨_, rfl⟩
        have hs := hs u7 hu7
        refine q_X0_copyTo hx hb hml hown hts mM_RX5_115 ⟨Nat.le_of_ble_eq_true rfl, Nat.le_of_ble_eq_true rfl⟩ ⟨Nat.le_of_ble_eq_true rfl, Nat.le_of_ble_eq_true rfl⟩ hl.1 (Nat.le_of_ble_eq_true rfl) hS dX5_divide_36 (fun _ h9 => fA_mono hS.1 h9) hi hK hP hC a0 a1 h6 u7 hu7 (fun H locs hP hS => ?_)
        refine lv_aload_n hx hb dX5_divide_39 rfl (lv_at hl 0 rfl) ?_
        refine va_get (D := (dC, dI)) (ci := 7) (v := .ref (ad 22)) (C := RX5) (T := TX5) (N := 8) hx hb hts iW_X5 hown hK hP 0 rfl rfl 7 (by decide) (hts _ mF_RX5_51) (fun _ h9 => h9) rfl dX5_divide_40 ?_
        refine lv_iconst (v := 0) hx hb dX5_divide_43 (by decide) ?_
        refine lv_dup2_11 hx hb dX5_divide_44 rfl rfl ?_
        obtain ⟨h8, hs⟩ := hs
        refine va_lald hx hb hK hP 22 1 rfl rfl h8 dX5_divide_45 ?_
        refine lv_lload_n hx hb dX5_divide_46 rfl (lv_at hl 3 rfl) ?_
        obtain ⟨h9, hs⟩ := hs
        refine lv_ldiv hx hb dX5_divide_47 h9 ?_
        obtain ⟨h10, hs⟩ := hs
        refine va_last hx hb hK hP (fA_D hi rfl) hS 22 1 rfl rfl h10 dX5_divide_48 (fun H locs hP _ hS => ?_)
        have hP : va_P (dC, dI) vwCl (wC ad cI cJ Bc Bl Pk Pr Pl Pc Pm Gf Gt Gx Gd Gm Ek Er Ea Ex Em Eb Et Ss Sm Wg Wr (vp_updL u7 (0 : Int32).toNatClampNeg ((u7 (0 : Int32).toNatClampNeg) / a2))) H := hP
        refine lv_iload_n hx hb dX5_divide_49 rfl (lv_at hl 1 rfl) ?_
        refine lv_iconst (v := 2) hx hb dX5_divide_50 (by decide) ?_
        refine lv_icmp_ne (tgt := 74) hx hb dX5_divide_51 (by decide) (fun c11 => ?_) (fun c11 => ?_)
        · have hs := hs.2 c11
          refine lv_aload_n hx hb dX5_divide_74 rfl (lv_at hl 0 rfl) ?_
          refine lv_iload_n hx hb dX5_divide_75 rfl (lv_at hl 1 rfl) ?_
          refine lv_iload_n hx hb dX5_divide_76 rfl (lv_at hl 2 rfl) ?_
          refine lv_iload hx hb dX5_divide_77 (lv_at hl 4 rfl) ?_
          obtain ⟨h12, hs⟩ := hs
          obtain ⟨u13, hu13⟩ : ∃ z, z = f_X5_putMade a0 a1 a3 Bc Bl Pk Pr Pl Pc Pm Gd (vp_updL u7 (0 : Int32).toNatClampNeg ((u7 (0 : Int32).toNatClampNeg) / a2)) := ⟨_, rfl⟩
          have hs := hs u13 hu13
          refine q_X5_putMade hst hx hb hml hown hts mM_RX5_95 ⟨Nat.le_of_ble_eq_true rfl, Nat.le_of_ble_eq_true rfl⟩ ⟨Nat.le_of_ble_eq_true rfl, Nat.le_of_ble_eq_true rfl⟩ hl.1 (Nat.le_of_ble_eq_true rfl) hS dX5_divide_79 (fun _ h9 => fA_mono hS.1 h9) hi hK hP hC a0 a1 a3 h12 u13 hu13 (fun hE c14 H locs hP hS ce q9 h71 h72 h73 => ?_) (fun c14 H locs hP hS => ?_)
          · rw [hQ9]
            have hf : f_X5_divide a0 a1 a2 a3 Bc Bl Pk Pr Pl Pc Pm Gd Md = (u13.1, 0, u13.2.2.1, u13.2.2.2.1, u13.2.2.2.2.1, u13.2.2.2.2.2.1, u13.2.2.2.2.2.2.1, u13.2.2.2.2.2.2.2.1, u13.2.2.2.2.2.2.2.2, (vp_updL u7 (0 : Int32).toNatClampNeg ((u7 (0 : Int32).toNatClampNeg) / a2))) := by simp only [f_X5_divide, ← hu1, if_pos c2, ← hu3, if_pos c4, if_neg c5, ← hu7, if_neg c11, ← hu13, if_neg c14]
            refine vx_widen (k := 3) (n := 18) (Nat.le_of_ble_eq_true rfl) (Nat.le_of_ble_eq_true rfl) (vx_out (fun x hx => (ht x hx).elim) hlocks h71 h72 h73 (fun t hh hv => ⟨(), by rw [hf]; exact c14, ⟨by rw [hf]; exact hE, by rw [hf]; show va_P (dC, dI) vwCl _ t.heap; rw [hh]; exact hP⟩, hS.F hh⟩) hS.2.2 (Nat.le_of_ble_eq_true rfl) (Nat.le_of_ble_eq_true rfl))
          · have hs := hs c14
            rw [hQ9]
            have hf : f_X5_divide a0 a1 a2 a3 Bc Bl Pk Pr Pl Pc Pm Gd Md = (0, u13.2.1, u13.2.2.1, u13.2.2.2.1, u13.2.2.2.2.1, u13.2.2.2.2.2.1, u13.2.2.2.2.2.2.1, u13.2.2.2.2.2.2.2.1, u13.2.2.2.2.2.2.2.2, (vp_updL u7 (0 : Int32).toNatClampNeg ((u7 (0 : Int32).toNatClampNeg) / a2))) := by simp only [f_X5_divide, ← hu1, if_pos c2, ← hu3, if_pos c4, if_neg c5, ← hu7, if_neg c11, ← hu13, if_pos c14]
            refine vx_ret ?_
            exact W.iret (v := u13.2.1) hx hb hr (fun t ht hW => ⟨⟨u13.2.1, (), rfl, ⟨by rw [hf], by rw [hf]⟩, by rw [hf]; show va_P (dC, dI) vwCl _ t.heap; rw [ht]; exact hP⟩, hS.F ht⟩) hS.2.2 dX5_divide_82
        · have hs := hs.1 c11
          refine lv_aload_n hx hb dX5_divide_54 rfl (lv_at hl 0 rfl) ?_
          refine va_get (D := (dC, dI)) (ci := 7) (v := .ref (ad 22)) (C := RX5) (T := TX5) (N := 8) hx hb hts iW_X5 hown hK hP 0 rfl rfl 7 (by decide) (hts _ mF_RX5_51) (fun _ h9 => h9) rfl dX5_divide_55 ?_
          refine lv_iconst (v := 1) hx hb dX5_divide_58 (by decide) ?_
          refine lv_dup2_11 hx hb dX5_divide_59 rfl rfl ?_
          obtain ⟨h15, hs⟩ := hs
          refine va_lald hx hb hK hP 22 1 rfl rfl h15 dX5_divide_60 ?_
          refine lv_lload_n hx hb dX5_divide_61 rfl (lv_at hl 3 rfl) ?_
          obtain ⟨h16, hs⟩ := hs
          refine lv_ldiv hx hb dX5_divide_62 h16 ?_
          obtain ⟨h17, hs⟩ := hs
          refine va_last hx hb hK hP (fA_D hi rfl) hS 22 1 rfl rfl h17 dX5_divide_63 (fun H locs hP _ hS => ?_)
          have hP : va_P (dC, dI) vwCl (wC ad cI cJ Bc Bl Pk Pr Pl Pc Pm Gf Gt Gx Gd Gm Ek Er Ea Ex Em Eb Et Ss Sm Wg Wr (vp_updL (vp_updL u7 (0 : Int32).toNatClampNeg ((u7 (0 : Int32).toNatClampNeg) / a2)) (1 : Int32).toNatClampNeg (((vp_updL u7 (0 : Int32).toNatClampNeg ((u7 (0 : Int32).toNatClampNeg) / a2)) (1 : Int32).toNatClampNeg) / a2))) H := hP
          refine lv_aload_n hx hb dX5_divide_64 rfl (lv_at hl 0 rfl) ?_
          refine va_get (D := (dC, dI)) (ci := 7) (v := .ref (ad 22)) (C := RX5) (T := TX5) (N := 8) hx hb hts iW_X5 hown hK hP 0 rfl rfl 7 (by decide) (hts _ mF_RX5_51) (fun _ h9 => h9) rfl dX5_divide_65 ?_
          refine lv_iconst (v := 3) hx hb dX5_divide_68 (by decide) ?_
          refine lv_dup2_11 hx hb dX5_divide_69 rfl rfl ?_
          obtain ⟨h18, hs⟩ := hs
          refine va_lald hx hb hK hP 22 1 rfl rfl h18 dX5_divide_70 ?_
          refine lv_lload_n hx hb dX5_divide_71 rfl (lv_at hl 3 rfl) ?_
          obtain ⟨h19, hs⟩ := hs
          refine lv_ldiv hx hb dX5_divide_72 h19 ?_
          obtain ⟨h20, hs⟩ := hs
          refine va_last hx hb hK hP (fA_D hi rfl) hS 22 1 rfl rfl h20 dX5_divide_73 (fun H locs hP _ hS => ?_)
          have hP : va_P (dC, dI) vwCl (wC ad cI cJ Bc Bl Pk Pr Pl Pc Pm Gf Gt Gx Gd Gm Ek Er Ea Ex Em Eb Et Ss Sm Wg Wr (vp_updL (vp_updL (vp_updL u7 (0 : Int32).toNatClampNeg ((u7 (0 : Int32).toNatClampNeg) / a2)) (1 : Int32).toNatClampNeg (((vp_updL u7 (0 : Int32).toNatClampNeg ((u7 (0 : Int32).toNatClampNeg) / a2)) (1 : Int32).toNatClampNeg) / a2)) (3 : Int32).toNatClampNeg (((vp_updL (vp_updL u7 (0 : Int32).toNatClampNeg ((u7 (0 : Int32).toNatClampNeg) / a2)) (1 : Int32).toNatClampNeg (((vp_updL u7 (0 : Int32).toNatClampNeg ((u7 (0 : Int32).toNatClampNeg) / a2)) (1 : Int32).toNatClampNeg) / a2)) (3 : Int32).toNatClampNeg) / a2))) H := hP
          refine lv_aload_n hx hb dX5_divide_74 rfl (lv_at hl 0 rfl) ?_
          refine lv_iload_n hx hb dX5_divide_75 rfl (lv_at hl 1 rfl) ?_
          refine lv_iload_n hx hb dX5_divide_76 rfl (lv_at hl 2 rfl) ?_
          refine lv_iload hx hb dX5_divide_77 (lv_at hl 4 rfl) ?_
          obtain ⟨h21, hs⟩ := hs
          obtain ⟨u22, hu22⟩ : ∃ z, z = f_X5_putMade a0 a1 a3 Bc Bl Pk Pr Pl Pc Pm Gd (vp_updL (vp_updL (vp_updL u7 (0 : Int32).toNatClampNeg ((u7 (0 : Int32).toNatClampNeg) / a2)) (1 : Int32).toNatClampNeg (((vp_updL u7 (0 : Int32).toNatClampNeg ((u7 (0 : Int32).toNatClampNeg) / a2)) (1 : Int32).toNatClampNeg) / a2)) (3 : Int32).toNatClampNeg (((vp_updL (vp_updL u7 (0 : Int32).toNatClampNeg ((u7 (0 : Int32).toNatClampNeg) / a2)) (1 : Int32).toNatClampNeg (((vp_updL u7 (0 : Int32).toNatClampNeg ((u7 (0 : Int32).toNatClampNeg) / a2)) (1 : Int32).toNatClampNeg) / a2)) (3 : Int32).toNatClampNeg) / a2)) := ⟨_, rfl⟩
          have hs := hs u22 hu22
          refine q_X5_putMade hst hx hb hml hown hts mM_RX5_95 ⟨Nat.le_of_ble_eq_true rfl, Nat.le_of_ble_eq_true rfl⟩ ⟨Nat.le_of_ble_eq_true rfl, Nat.le_of_ble_eq_true rfl⟩ hl.1 (Nat.le_of_ble_eq_true rfl) hS dX5_divide_79 (fun _ h9 => fA_mono hS.1 h9) hi hK hP hC a0 a1 a3 h21 u22 hu22 (fun hE c23 H locs hP hS ce q9 h71 h72 h73 => ?_) (fun c23 H locs hP hS => ?_)
          · rw [hQ9]
            have hf : f_X5_divide a0 a1 a2 a3 Bc Bl Pk Pr Pl Pc Pm Gd Md = (u22.1, 0, u22.2.2.1, u22.2.2.2.1, u22.2.2.2.2.1, u22.2.2.2.2.2.1, u22.2.2.2.2.2.2.1, u22.2.2.2.2.2.2.2.1, u22.2.2.2.2.2.2.2.2, (vp_updL (vp_updL (vp_updL u7 (0 : Int32).toNatClampNeg ((u7 (0 : Int32).toNatClampNeg) / a2)) (1 : Int32).toNatClampNeg (((vp_updL u7 (0 : Int32).toNatClampNeg ((u7 (0 : Int32).toNatClampNeg) / a2)) (1 : Int32).toNatClampNeg) / a2)) (3 : Int32).toNatClampNeg (((vp_updL (vp_updL u7 (0 : Int32).toNatClampNeg ((u7 (0 : Int32).toNatClampNeg) / a2)) (1 : Int32).toNatClampNeg (((vp_updL u7 (0 : Int32).toNatClampNeg ((u7 (0 : Int32).toNatClampNeg) / a2)) (1 : Int32).toNatClampNeg) / a2)) (3 : Int32).toNatClampNeg) / a2))) := by simp only [f_X5_divide, ← hu1, if_pos c2, ← hu3, if_pos c4, if_neg c5, ← hu7, if_pos c11, ← hu22, if_neg c23]
            refine vx_widen (k := 3) (n := 18) (Nat.le_of_ble_eq_true rfl) (Nat.le_of_ble_eq_true rfl) (vx_out (fun x hx => (ht x hx).elim) hlocks h71 h72 h73 (fun t hh hv => ⟨(), by rw [hf]; exact c23, ⟨by rw [hf]; exact hE, by rw [hf]; show va_P (dC, dI) vwCl _ t.heap; rw [hh]; exact hP⟩, hS.F hh⟩) hS.2.2 (Nat.le_of_ble_eq_true rfl) (Nat.le_of_ble_eq_true rfl))
          · have hs := hs c23
            rw [hQ9]
            have hf : f_X5_divide a0 a1 a2 a3 Bc Bl Pk Pr Pl Pc Pm Gd Md = (0, u22.2.1, u22.2.2.1, u22.2.2.2.1, u22.2.2.2.2.1, u22.2.2.2.2.2.1, u22.2.2.2.2.2.2.1, u22.2.2.2.2.2.2.2.1, u22.2.2.2.2.2.2.2.2, (vp_updL (vp_updL (vp_updL u7 (0 : Int32).toNatClampNeg ((u7 (0 : Int32).toNatClampNeg) / a2)) (1 : Int32).toNatClampNeg (((vp_updL u7 (0 : Int32).toNatClampNeg ((u7 (0 : Int32).toNatClampNeg) / a2)) (1 : Int32).toNatClampNeg) / a2)) (3 : Int32).toNatClampNeg (((vp_updL (vp_updL u7 (0 : Int32).toNatClampNeg ((u7 (0 : Int32).toNatClampNeg) / a2)) (1 : Int32).toNatClampNeg (((vp_updL u7 (0 : Int32).toNatClampNeg ((u7 (0 : Int32).toNatClampNeg) / a2)) (1 : Int32).toNatClampNeg) / a2)) (3 : Int32).toNatClampNeg) / a2))) := by simp only [f_X5_divide, ← hu1, if_pos c2, ← hu3, if_pos c4, if_neg c5, ← hu7, if_pos c11, ← hu22, if_pos c23]
            refine vx_ret ?_
            exact W.iret (v := u22.2.1) hx hb hr (fun t ht hW => ⟨⟨u22.2.1, (), rfl, ⟨by rw [hf], by rw [hf]⟩, by rw [hf]; show va_P (dC, dI) vwCl _ t.heap; rw [ht]; exact hP⟩, hS.F ht⟩) hS.2.2 dX5_divide_82
      · have c5 : a2 = (0 : Int64) := lc_eq.mp c5
        have hs := hs.1 c5
        rw [hQ9]
        have hf : f_X5_divide a0 a1 a2 a3 Bc Bl Pk Pr Pl Pc Pm Gd Md = (5, 0, Bc, Bl, Pk, Pr, Pl, Pc, Pm, Md) := by simp only [f_X5_divide, ← hu1, if_pos c2, ← hu3, if_pos c4, if_pos c5]
        obtain ⟨sa24, hsa24⟩ := hC.str 9 _ rfl
        refine vx_throwS (mc := 3) (ms := 18) (ik := 129) (ic := 133) (is := 131) (own := RX5) (cls := x_ARI) (text := "divided by 0") (names := x_nam) hx hb hst hown (by decide) nm_x (hts _ mC_RX5_129) (hts _ mN_ArithmeticException) hsa24 (xw_ARI hts hC) xg_ARI hC.1 hC.2.1 hS (by rw [hml]; exact hl.1) dX5_divide_16 dX5_divide_19 dX5_divide_20 dX5_divide_22 dX5_divide_25 (fun x hx => (ht x hx).elim) (Nat.le_of_ble_eq_true rfl) (Nat.le_of_ble_eq_true rfl) (Nat.le_of_ble_eq_true rfl) (Nat.le_of_ble_eq_true rfl) hlocks (fun t hv hz hk => ⟨(), by rw [hf]; exact (by decide : ¬ (5 : Nat) = 0), ⟨by rw [hf]; rfl, by rw [hf]; exact hP.kept (fun k z hkz => hk z.1 (hP k z hkz).lt)⟩, ⟨Nat.le_trans hS.1 hz, fun q h1 h2 => (hk q (Nat.lt_of_lt_of_le h1 hS.1)).trans (hS.2.1 q h1 h2)⟩⟩) hS.2.2 (Nat.le_of_ble_eq_true rfl) (Nat.le_of_ble_eq_true rfl)
theorem q_X5_divide {p : Program} {l : Launch} {e : Env} {R : Room} {s : State} {m : MethodId} {args : Array Value} {below : List Frame} {meth : Method} {c : Code} {H : Heap} {locs : List Loc} {cells slots : Nat} {Q : State → Prop} {pc : Nat} {ls : Array Slot} {rest : List Value} {cc : ByteArray} {nL idx : Nat} {own : String} {A0 : Nat → Prop} {dC : Nat → ClassId} {dI : Nat → Nat → Nat} {cI cJ : ClassId} {ad : Nat → Nat} {Bc : Nat → Int64} {Bl : Nat → Int32} {Pk : Nat → Int32} {Pr : Nat → Int32} {Pl : Nat → Int32} {Pc : Nat → Int64} {Pm : Int32} {Gf : Nat → Int32} {Gt : Nat → Int32} {Gx : Nat → Int32} {Gd : Int32} {Gm : Int32} {Ek : Nat → Int32} {Er : Nat → Int32} {Ea : Nat → Int32} {Ex : Nat → Int32} {Em : Int32} {Eb : Int32} {Et : Int32} {Ss : Nat → Int32} {Sm : Int32} {Wg : Nat → Int64} {Wr : Nat → Int64} {Md : Nat → Int64} (hst : l.stackTraces = false) (hx : p.tables.exec = Jvm.exec) (hb : c.code = cc) (hml : c.maxLocals = nL) (hown : s.vm.findClass own = some m.cls) (hts : ∀ w ∈ bigW, w.before args s = true) (hlk : Cond.methodLink own idx yX5_divide ∈ bigW) (hR : 8 ≤ R.frames ∧ 141 ≤ R.locals) (hf : cells + 3 ≤ R.cells ∧ slots + 18 ≤ R.slots) (hz : ls.size = nL) (hw : (rest.map fun v => v.category).sum ≤ 8) (hS : va_S A0 s.heap H locs) (hd : decode cc pc = .ok (.invokevirtual idx, 3)) (hA : ∀ q, fA 23 ad H.size q → A0 q) (hi : fI 23 ad) (hK : va_K (dC, dI) vwCl [(cI, .int), (cJ, .long)] s) (hP : va_P (dC, dI) vwCl (wC ad cI cJ Bc Bl Pk Pr Pl Pc Pm Gf Gt Gx Gd Gm Ek Er Ea Ex Em Eb Et Ss Sm Wg Wr Md) H) (hC : cxt A0 s s.heap) (a0 : Int32) (a1 : Int32) (a2 : Int64) (a3 : Int32) (hs : S_X5_divide a0 a1 a2 a3 Bc Bl Pk Pr Pl Pc Pm Gd Md)  (u : Nat × Int32 × (Nat → Int64) × (Nat → Int32) × (Nat → Int32) × (Nat → Int32) × (Nat → Int32) × (Nat → Int64) × Int32 × (Nat → Int64)) (hu : u = f_X5_divide a0 a1 a2 a3 Bc Bl Pk Pr Pl Pc Pm Gd Md) (kx : ∀ {E : String} (hE : E = exN u.1) (ho : ¬ u.1 = 0) (H1 : Heap) (locs1 : List Loc), va_P (dC, dI) vwCl (wC ad cI cJ u.2.2.1 u.2.2.2.1 u.2.2.2.2.1 u.2.2.2.2.2.1 u.2.2.2.2.2.2.1 u.2.2.2.2.2.2.2.1 u.2.2.2.2.2.2.2.2.1 Gf Gt Gx Gd Gm Ek Er Ea Ex Em Eb Et Ss Sm Wg Wr u.2.2.2.2.2.2.2.2.2) H1 → va_S A0 s.heap H1 locs1 → ∀ (ce : Cell) (q9 : Addr), H1[q9]? = some ce → ce.vm = .none → s.vm.findClass E = some ce.cls → vx_W p l e R s m args below meth c H1 locs1 (cells + 3) (slots + 18) Q (F0 m pc ls rest) q9) (k : u.1 = 0 → ∀ (H1 : Heap) (locs1 : List Loc), va_P (dC, dI) vwCl (wC ad cI cJ u.2.2.1 u.2.2.2.1 u.2.2.2.2.1 u.2.2.2.2.2.1 u.2.2.2.2.2.2.1 u.2.2.2.2.2.2.2.1 u.2.2.2.2.2.2.2.2.1 Gf Gt Gx Gd Gm Ek Er Ea Ex Em Eb Et Ss Sm Wg Wr u.2.2.2.2.2.2.2.2.2) H1 → va_S A0 s.heap H1 locs1 → W p l e R s m args below meth c H1 locs1 (cells + 3) (slots + 18) Q (F0 m (pc + 3) ls (.int u.2.1 :: rest))) : W p l e R s m args below meth c H locs cells slots Q (F0 m pc ls (.int a3 :: .long a2 :: .int a1 :: .int a0 :: .ref (ad 0) :: rest)) := by
  subst hu
  exact vx_calli (vx_runV (As := [.int a0, .int a1, .long a2, .int a3]) (rest := rest) ⟨hx, hb, hml, hown, hts⟩ (c_X5_divide l hst dC dI cI cJ ad hi H.size Bc Bl Pk Pr Pl Pc Pm Gf Gt Gx Gd Gm Ek Er Ea Ex Em Eb Et Ss Sm Wg Wr Md a0 a1 a2 a3 hs) (kV 4 hts hlk mI_X5_divide mN_RX5 mY_X5_divide mV_X5_divide rfl rfl (by decide +kernel) hR) ⟨fun a U g mk q => ⟨q.1, q.2.1, q.2.2.1, va_K.moved (u := U) (U := U.calling g mk a) (Vm.Alike.refl U.vm) q.2.2.2.1, q.2.2.2.2.call⟩, va_recv hK hP (ci := 7) (q0 := 0) rfl rfl, fun U hU hW => ⟨rfl, by rw [hU], by rw [hU]; exact hP, va_K.moved hW.alike hK, hC.here hS hU hW hA⟩⟩ rfl rfl hz rfl (lv_room hw) hd hf) hS (fun q _ h => hA q h) (fun q h => hA q h) (fun q _ h => hA q h) (fun E ce q9 u t H1 locs1 ht hvm hw9 hB hz1 hk1 hS1 h1 h2 h3 => kx hB.1 hw9 H1 locs1 (by rw [← ht]; exact hB.2) hS1 ce q9 h1 h2 h3) (fun r u t H1 locs1 ht hvm hw9 hB hz1 hk1 hS1 => by
    obtain ⟨e1, rfl⟩ := hw9
    exact k e1 H1 locs1 (by rw [← ht]; exact hB) hS1)
theorem qf_X5_divide {p : Program} {l : Launch} {e : Env} {R : Room} {s : State} {m : MethodId} {args : Array Value} {below : List Frame} {meth : Method} {c : Code} {H : Heap} {locs : List Loc} {cells slots : Nat} {Q : State → Prop} {pc : Nat} {ls : Array Slot} {rest : List Value} {cc : ByteArray} {nL idx : Nat} {own : String} {A0 : Nat → Prop} {dC : Nat → ClassId} {dI : Nat → Nat → Nat} {cI cJ : ClassId} {ad : Nat → Nat} {Bc : Nat → Int64} {Bl : Nat → Int32} {Pk : Nat → Int32} {Pr : Nat → Int32} {Pl : Nat → Int32} {Pc : Nat → Int64} {Pm : Int32} {Gf : Nat → Int32} {Gt : Nat → Int32} {Gx : Nat → Int32} {Gd : Int32} {Gm : Int32} {Ek : Nat → Int32} {Er : Nat → Int32} {Ea : Nat → Int32} {Ex : Nat → Int32} {Em : Int32} {Eb : Int32} {Et : Int32} {Ss : Nat → Int32} {Sm : Int32} {Wg : Nat → Int64} {Wr : Nat → Int64} {Md : Nat → Int64} (hst : l.stackTraces = false) (hx : p.tables.exec = Jvm.exec) (hb : c.code = cc) (hml : c.maxLocals = nL) (hown : s.vm.findClass own = some m.cls) (hts : ∀ w ∈ bigW, w.before args s = true) (hlk : Cond.methodLink own idx yX5_divide ∈ bigW) (hR : 8 ≤ R.frames ∧ 141 ≤ R.locals) (hf : cells + 3 ≤ R.cells ∧ slots + 18 ≤ R.slots) (hz : ls.size = nL) (hw : (rest.map fun v => v.category).sum ≤ 8) (hS : va_S A0 s.heap H locs) (hd : decode cc pc = .ok (.invokevirtual idx, 3)) (hA : ∀ q, fA 23 ad H.size q → A0 q) (hi : fI 23 ad) (hK : va_K (dC, dI) vwCl [(cI, .int), (cJ, .long)] s) (hP : va_P (dC, dI) vwCl (wC ad cI cJ Bc Bl Pk Pr Pl Pc Pm Gf Gt Gx Gd Gm Ek Er Ea Ex Em Eb Et Ss Sm Wg Wr Md) H) (hC : cxt A0 s s.heap) (a0 : Int32) (a1 : Int32) (a2 : Int64) (a3 : Int32) (hs : S_X5_divide a0 a1 a2 a3 Bc Bl Pk Pr Pl Pc Pm Gd Md)  (u : Nat × Int32 × (Nat → Int64) × (Nat → Int32) × (Nat → Int32) × (Nat → Int32) × (Nat → Int32) × (Nat → Int64) × Int32 × (Nat → Int64)) (hu : u = f_X5_divide a0 a1 a2 a3 Bc Bl Pk Pr Pl Pc Pm Gd Md) (kx : ∀ {E : String} (hE : E = exN u.1) (ho : ¬ u.1 = 0) (H1 : Heap) (locs1 : List Loc), va_P (dC, dI) vwCl (wC ad cI cJ u.2.2.1 u.2.2.2.1 u.2.2.2.2.1 u.2.2.2.2.2.1 u.2.2.2.2.2.2.1 u.2.2.2.2.2.2.2.1 u.2.2.2.2.2.2.2.2.1 Gf Gt Gx Gd Gm Ek Er Ea Ex Em Eb Et Ss Sm Wg Wr u.2.2.2.2.2.2.2.2.2) H1 → va_S A0 s.heap H1 locs1 → (∀ q : Nat, q < H.size → ¬ fA 23 ad H.size q → H1[q]? = H[q]?) → H.size ≤ H1.size → ∀ (ce : Cell) (q9 : Addr), H1[q9]? = some ce → ce.vm = .none → s.vm.findClass E = some ce.cls → vx_W p l e R s m args below meth c H1 locs1 (cells + 3) (slots + 18) Q (F0 m pc ls rest) q9) (k : u.1 = 0 → ∀ (H1 : Heap) (locs1 : List Loc), va_P (dC, dI) vwCl (wC ad cI cJ u.2.2.1 u.2.2.2.1 u.2.2.2.2.1 u.2.2.2.2.2.1 u.2.2.2.2.2.2.1 u.2.2.2.2.2.2.2.1 u.2.2.2.2.2.2.2.2.1 Gf Gt Gx Gd Gm Ek Er Ea Ex Em Eb Et Ss Sm Wg Wr u.2.2.2.2.2.2.2.2.2) H1 → va_S A0 s.heap H1 locs1 → (∀ q : Nat, q < H.size → ¬ fA 23 ad H.size q → H1[q]? = H[q]?) → H.size ≤ H1.size → W p l e R s m args below meth c H1 locs1 (cells + 3) (slots + 18) Q (F0 m (pc + 3) ls (.int u.2.1 :: rest))) : W p l e R s m args below meth c H locs cells slots Q (F0 m pc ls (.int a3 :: .long a2 :: .int a1 :: .int a0 :: .ref (ad 0) :: rest)) := by
  subst hu
  exact vx_calli (vx_runV (As := [.int a0, .int a1, .long a2, .int a3]) (rest := rest) ⟨hx, hb, hml, hown, hts⟩ (c_X5_divide l hst dC dI cI cJ ad hi H.size Bc Bl Pk Pr Pl Pc Pm Gf Gt Gx Gd Gm Ek Er Ea Ex Em Eb Et Ss Sm Wg Wr Md a0 a1 a2 a3 hs) (kV 4 hts hlk mI_X5_divide mN_RX5 mY_X5_divide mV_X5_divide rfl rfl (by decide +kernel) hR) ⟨fun a U g mk q => ⟨q.1, q.2.1, q.2.2.1, va_K.moved (u := U) (U := U.calling g mk a) (Vm.Alike.refl U.vm) q.2.2.2.1, q.2.2.2.2.call⟩, va_recv hK hP (ci := 7) (q0 := 0) rfl rfl, fun U hU hW => ⟨rfl, by rw [hU], by rw [hU]; exact hP, va_K.moved hW.alike hK, hC.here hS hU hW hA⟩⟩ rfl rfl hz rfl (lv_room hw) hd hf) hS (fun q _ h => hA q h) (fun q h => hA q h) (fun q _ h => hA q h) (fun E ce q9 u t H1 locs1 ht hvm hw9 hB hz1 hk1 hS1 h1 h2 h3 => kx hB.1 hw9 H1 locs1 (by rw [← ht]; exact hB.2) hS1 hk1 hz1 ce q9 h1 h2 h3) (fun r u t H1 locs1 ht hvm hw9 hB hz1 hk1 hS1 => by
    obtain ⟨e1, rfl⟩ := hw9
    exact k e1 H1 locs1 (by rw [← ht]; exact hB) hS1 hk1 hz1)

def f_X5_take (a0 : Int32) (Bc : Nat → Int64) : Nat × Int32 × (Nat → Int64) := (let u1 := f_X5_checkRegister a0.toInt64; (if u1 = 0 then (if (Bc (f_X0_home (4 : Int32) a0).toNatClampNeg).toInt32 = (-1 : Int32) then (0, (-1 : Int32), (vp_updL Bc (f_X0_home (4 : Int32) a0).toNatClampNeg (-1 : Int64))) else (0, (Bc (f_X0_home (4 : Int32) a0).toNatClampNeg).toInt32, (vp_updL Bc (f_X0_home (4 : Int32) a0).toNatClampNeg (-1 : Int64)))) else (u1, 0, Bc)))
def S_X5_take (a0 : Int32) (Bc : Nat → Int64) : Prop := ∀ u1, u1 = f_X5_checkRegister a0.toInt64 → (u1 = 0 → ((S_X0_home (4 : Int32) a0) ∧ ((vp_in (f_X0_home (4 : Int32) a0) 928) ∧ ((vp_in (f_X0_home (4 : Int32) a0) 928) ∧ (((Bc (f_X0_home (4 : Int32) a0).toNatClampNeg).toInt32 = (-1 : Int32) → (True)) ∧ (¬ (Bc (f_X0_home (4 : Int32) a0).toNatClampNeg).toInt32 = (-1 : Int32) → (True)))))))
set_option maxHeartbeats 4000000 in
set_option maxRecDepth 100000 in
theorem c_X5_take (l : Launch) (hst : l.stackTraces = false) (dC : Nat → ClassId) (dI : Nat → Nat → Nat) (cI cJ : ClassId) (ad : Nat → Nat) (hi : fI 23 ad) (sz : Nat) (Bc : Nat → Int64) (Bl : Nat → Int32) (Pk : Nat → Int32) (Pr : Nat → Int32) (Pl : Nat → Int32) (Pc : Nat → Int64) (Pm : Int32) (Gf : Nat → Int32) (Gt : Nat → Int32) (Gx : Nat → Int32) (Gd : Int32) (Gm : Int32) (Ek : Nat → Int32) (Er : Nat → Int32) (Ea : Nat → Int32) (Ex : Nat → Int32) (Em : Int32) (Eb : Int32) (Et : Int32) (Ss : Nat → Int32) (Sm : Int32) (Wg : Nat → Int64) (Wr : Nat → Int64) (Md : Nat → Int64) (a0 : Int32) (hs : S_X5_take a0 Bc) : vx_Met l yX5_take (mW yX5_take cX5_take 4 (some .int)) { frames := 7, cells := 1, slots := 6, locals := 113 } (va_Pc [.ref (ad 0), .int a0] (fun U => U.heap.size = sz ∧ va_P (dC, dI) vwCl (wC ad cI cJ Bc Bl Pk Pr Pl Pc Pm Gf Gt Gx Gd Gm Ek Er Ea Ex Em Eb Et Ss Sm Wg Wr Md) U.heap ∧ va_K (dC, dI) vwCl [(cI, .int), (cJ, .long)] U ∧ cxt (fA 23 ad sz) U U.heap)) (va_Qi (fun (r : Int32) (_ : Unit) => (f_X5_take a0 Bc).1 = 0 ∧ r = (f_X5_take a0 Bc).2.1) (fun _ t => va_P (dC, dI) vwCl (wC ad cI cJ ((f_X5_take a0 Bc).2.2) Bl Pk Pr Pl Pc Pm Gf Gt Gx Gd Gm Ek Er Ea Ex Em Eb Et Ss Sm Wg Wr Md) t.heap) (fA 23 ad sz)) (vx_X (fun _ : Unit => ¬ (f_X5_take a0 Bc).1 = 0) (fun E _ t => E = exN ((f_X5_take a0 Bc).1) ∧ va_P (dC, dI) vwCl (wC ad cI cJ ((f_X5_take a0 Bc).2.2) Bl Pk Pr Pl Pc Pm Gf Gt Gx Gd Gm Ek Er Ea Ex Em Eb Et Ss Sm Wg Wr Md) t.heap) (fA 23 ad sz)) 1 6 (fA 23 ad sz) := by
  refine vx_ofW (cc := cX5_take) (maxL := 4) (ret := (some .int)) (by decide) rfl ?_
  intro p e s m args below meth c s₁ B hml ht hv
  obtain ⟨rfl, hsz, hP, hK, hC⟩ := hv
  have hx := B.exec
  have hb := B.bytes
  have hr := B.returns
  have hts := mW_hts (atoms_spec (ws := (mW yX5_take cX5_take 4 (some .int))) B.pre)
  have hown : s.vm.findClass RX5 = some m.cls := findClass_of_methodNamed B.named
  have hlocks := B.notSynchronized
  subst hsz
  have hA : ∀ (n : Nat) (q : Nat), s.heap.size ≤ n → n ≤ q → fA 23 ad s.heap.size q := fun n q h1 h2 => Or.inr (Nat.le_trans h1 h2)
  have hS : va_S (fA 23 ad s.heap.size) s.heap s.heap [] := va_S.rf
  have hA : ∀ q, s.heap.size ≤ q → (fA 23 ad s.heap.size) q := fun q h => Or.inr h
  unfold S_X5_take at hs
  have hl := lv_entry ([.ref (ad 0), .int a0]) (n := 4) (Nat.le_of_ble_eq_true rfl)
  rw [lg_entry_eq]
  generalize (lg_sl ([.ref (ad 0), .int a0]) ++ List.replicate (4 - (lg_sl ([.ref (ad 0), .int a0])).length) Slot.unset).toArray = ls at hl ⊢
  have hl : lv_has ls 4 [(0, .ref (ad 0)), (1, .int a0)] := hl
  refine W_gen (fun Q9 hQ9 => ?_)
  refine lv_iload_n hx hb dX5_take_0 rfl (lv_at hl 1 rfl) ?_
  refine lv_i2l hx hb dX5_take_1 rfl ?_
  obtain ⟨u1, hu1⟩ : ∃ z, z = f_X5_checkRegister a0.toInt64 := ⟨_, rfl⟩
  have hs := hs u1 hu1
  refine q_X5_checkRegister hst hx hb hml hown hts mM_RX5_87 ⟨Nat.le_of_ble_eq_true rfl, Nat.le_of_ble_eq_true rfl⟩ ⟨Nat.le_of_ble_eq_true rfl, Nat.le_of_ble_eq_true rfl⟩ hl.1 (Nat.le_of_ble_eq_true rfl) hS dX5_take_2 hA hC a0.toInt64 u1 hu1 (fun hE c2 H locs hk hz hS ce q9 h71 h72 h73 => ?_) (fun c2 locs hS => ?_)
  · have hP := hP.kept (H1 := H) (fun k z hkz => hk z.1 (hP k z hkz).lt)
    rw [hQ9]
    have hf : f_X5_take a0 Bc = (u1, 0, Bc) := by simp only [f_X5_take, ← hu1, if_neg c2]
    refine vx_widen (k := 1) (n := 6) (Nat.le_of_ble_eq_true rfl) (Nat.le_of_ble_eq_true rfl) (vx_out (fun x hx => (ht x hx).elim) hlocks h71 h72 h73 (fun t hh hv => ⟨(), by rw [hf]; exact c2, ⟨by rw [hf]; exact hE, by rw [hf]; show va_P (dC, dI) vwCl _ t.heap; rw [hh]; exact hP⟩, hS.F hh⟩) hS.2.2 (Nat.le_of_ble_eq_true rfl) (Nat.le_of_ble_eq_true rfl))
  · have hs := hs c2
    refine lv_iconst (v := 4) hx hb dX5_take_5 (by decide) ?_
    refine lv_iload_n hx hb dX5_take_6 rfl (lv_at hl 1 rfl) ?_
    obtain ⟨h3, hs⟩ := hs
    refine q_X0_home hx hb hml hown hts mM_RX5_102 ⟨Nat.le_of_ble_eq_true rfl, Nat.le_of_ble_eq_true rfl⟩ ⟨Nat.le_of_ble_eq_true rfl, Nat.le_of_ble_eq_true rfl⟩ hl.1 (Nat.le_of_ble_eq_true rfl) hS dX5_take_7 hA hC (4 : Int32) a0 h3 (fun locs hS => ?_)
    refine lv_istore_n (lv' := [(2, .int (f_X0_home (4 : Int32) a0)), (0, .ref (ad 0)), (1, .int a0)]) hx hb dX5_take_10 rfl hl (by decide) rfl (fun ls hl => ?_)
    refine lv_aload_n hx hb dX5_take_11 rfl (lv_at hl 1 rfl) ?_
    refine va_get (D := (dC, dI)) (ci := 7) (v := .ref (ad 1)) (C := RX5) (T := TX5) (N := 8) hx hb hts iW_X5 hown hK hP 0 rfl rfl 0 (by decide) (hts _ mF_RX5_10) (fun _ h9 => h9) rfl dX5_take_12 ?_
    refine va_get (D := (dC, dI)) (ci := 2) (v := .ref (ad 2)) (C := RX0) (T := TX0) (N := 2) hx hb hts iW_X0 hown hK hP 1 rfl rfl 0 (by decide) (hts _ mF_RX5_99) (fun _ h9 => h9) rfl dX5_take_15 ?_
    refine lv_iload_n hx hb dX5_take_18 rfl (lv_at hl 0 rfl) ?_
    obtain ⟨h4, hs⟩ := hs
    refine va_lald hx hb hK hP 2 1 rfl rfl h4 dX5_take_19 ?_
    refine lv_l2i hx hb dX5_take_20 rfl ?_
    refine lv_istore_n (lv' := [(3, .int (Bc (f_X0_home (4 : Int32) a0).toNatClampNeg).toInt32), (2, .int (f_X0_home (4 : Int32) a0)), (0, .ref (ad 0)), (1, .int a0)]) hx hb dX5_take_21 rfl hl (by decide) rfl (fun ls hl => ?_)
    refine lv_aload_n hx hb dX5_take_22 rfl (lv_at hl 2 rfl) ?_
    refine va_get (D := (dC, dI)) (ci := 7) (v := .ref (ad 1)) (C := RX5) (T := TX5) (N := 8) hx hb hts iW_X5 hown hK hP 0 rfl rfl 0 (by decide) (hts _ mF_RX5_10) (fun _ h9 => h9) rfl dX5_take_23 ?_
    refine va_get (D := (dC, dI)) (ci := 2) (v := .ref (ad 2)) (C := RX0) (T := TX0) (N := 2) hx hb hts iW_X0 hown hK hP 1 rfl rfl 0 (by decide) (hts _ mF_RX5_99) (fun _ h9 => h9) rfl dX5_take_26 ?_
    refine lv_iload_n hx hb dX5_take_29 rfl (lv_at hl 1 rfl) ?_
    refine lv_ldc2 hx hb hown (hts _ mK_RX5_81) dX5_take_30 ?_
    obtain ⟨h5, hs⟩ := hs
    refine va_last hx hb hK hP (fA_D hi rfl) hS 2 1 rfl rfl h5 dX5_take_33 (fun H locs hP _ hS => ?_)
    have hP : va_P (dC, dI) vwCl (wC ad cI cJ (vp_updL Bc (f_X0_home (4 : Int32) a0).toNatClampNeg (-1 : Int64)) Bl Pk Pr Pl Pc Pm Gf Gt Gx Gd Gm Ek Er Ea Ex Em Eb Et Ss Sm Wg Wr Md) H := hP
    refine lv_iload_n hx hb dX5_take_34 rfl (lv_at hl 0 rfl) ?_
    refine lv_iconst (v := (-1)) hx hb dX5_take_35 (by decide) ?_
    refine lv_icmp_ne (tgt := 43) hx hb dX5_take_36 (by decide) (fun c6 => ?_) (fun c6 => ?_)
    · have hs := hs.2 c6
      refine lv_iload_n hx hb dX5_take_43 rfl (lv_at hl 0 rfl) ?_
      rw [hQ9]
      have hf : f_X5_take a0 Bc = (0, (Bc (f_X0_home (4 : Int32) a0).toNatClampNeg).toInt32, (vp_updL Bc (f_X0_home (4 : Int32) a0).toNatClampNeg (-1 : Int64))) := by simp only [f_X5_take, ← hu1, if_pos c2, if_neg c6]
      refine vx_ret ?_
      exact W.iret (v := (Bc (f_X0_home (4 : Int32) a0).toNatClampNeg).toInt32) hx hb hr (fun t ht hW => ⟨⟨(Bc (f_X0_home (4 : Int32) a0).toNatClampNeg).toInt32, (), rfl, ⟨by rw [hf], by rw [hf]⟩, by rw [hf]; show va_P (dC, dI) vwCl _ t.heap; rw [ht]; exact hP⟩, hS.F ht⟩) hS.2.2 dX5_take_44
    · have hs := hs.1 c6
      refine lv_iconst (v := (-1)) hx hb dX5_take_39 (by decide) ?_
      refine lv_goto (tgt := 44) hx hb dX5_take_40 (by decide) ?_
      rw [hQ9]
      have hf : f_X5_take a0 Bc = (0, (-1 : Int32), (vp_updL Bc (f_X0_home (4 : Int32) a0).toNatClampNeg (-1 : Int64))) := by simp only [f_X5_take, ← hu1, if_pos c2, if_pos c6]
      refine vx_ret ?_
      exact W.iret (v := (-1 : Int32)) hx hb hr (fun t ht hW => ⟨⟨(-1 : Int32), (), rfl, ⟨by rw [hf], by rw [hf]⟩, by rw [hf]; show va_P (dC, dI) vwCl _ t.heap; rw [ht]; exact hP⟩, hS.F ht⟩) hS.2.2 dX5_take_44
theorem q_X5_take {p : Program} {l : Launch} {e : Env} {R : Room} {s : State} {m : MethodId} {args : Array Value} {below : List Frame} {meth : Method} {c : Code} {H : Heap} {locs : List Loc} {cells slots : Nat} {Q : State → Prop} {pc : Nat} {ls : Array Slot} {rest : List Value} {cc : ByteArray} {nL idx : Nat} {own : String} {A0 : Nat → Prop} {dC : Nat → ClassId} {dI : Nat → Nat → Nat} {cI cJ : ClassId} {ad : Nat → Nat} {Bc : Nat → Int64} {Bl : Nat → Int32} {Pk : Nat → Int32} {Pr : Nat → Int32} {Pl : Nat → Int32} {Pc : Nat → Int64} {Pm : Int32} {Gf : Nat → Int32} {Gt : Nat → Int32} {Gx : Nat → Int32} {Gd : Int32} {Gm : Int32} {Ek : Nat → Int32} {Er : Nat → Int32} {Ea : Nat → Int32} {Ex : Nat → Int32} {Em : Int32} {Eb : Int32} {Et : Int32} {Ss : Nat → Int32} {Sm : Int32} {Wg : Nat → Int64} {Wr : Nat → Int64} {Md : Nat → Int64} (hst : l.stackTraces = false) (hx : p.tables.exec = Jvm.exec) (hb : c.code = cc) (hml : c.maxLocals = nL) (hown : s.vm.findClass own = some m.cls) (hts : ∀ w ∈ bigW, w.before args s = true) (hlk : Cond.methodLink own idx yX5_take ∈ bigW) (hR : 8 ≤ R.frames ∧ 136 ≤ R.locals) (hf : cells + 1 ≤ R.cells ∧ slots + 6 ≤ R.slots) (hz : ls.size = nL) (hw : (rest.map fun v => v.category).sum ≤ 8) (hS : va_S A0 s.heap H locs) (hd : decode cc pc = .ok (.invokevirtual idx, 3)) (hA : ∀ q, fA 23 ad H.size q → A0 q) (hi : fI 23 ad) (hK : va_K (dC, dI) vwCl [(cI, .int), (cJ, .long)] s) (hP : va_P (dC, dI) vwCl (wC ad cI cJ Bc Bl Pk Pr Pl Pc Pm Gf Gt Gx Gd Gm Ek Er Ea Ex Em Eb Et Ss Sm Wg Wr Md) H) (hC : cxt A0 s s.heap) (a0 : Int32) (hs : S_X5_take a0 Bc)  (u : Nat × Int32 × (Nat → Int64)) (hu : u = f_X5_take a0 Bc) (kx : ∀ {E : String} (hE : E = exN u.1) (ho : ¬ u.1 = 0) (H1 : Heap) (locs1 : List Loc), va_P (dC, dI) vwCl (wC ad cI cJ u.2.2 Bl Pk Pr Pl Pc Pm Gf Gt Gx Gd Gm Ek Er Ea Ex Em Eb Et Ss Sm Wg Wr Md) H1 → va_S A0 s.heap H1 locs1 → ∀ (ce : Cell) (q9 : Addr), H1[q9]? = some ce → ce.vm = .none → s.vm.findClass E = some ce.cls → vx_W p l e R s m args below meth c H1 locs1 (cells + 1) (slots + 6) Q (F0 m pc ls rest) q9) (k : u.1 = 0 → ∀ (H1 : Heap) (locs1 : List Loc), va_P (dC, dI) vwCl (wC ad cI cJ u.2.2 Bl Pk Pr Pl Pc Pm Gf Gt Gx Gd Gm Ek Er Ea Ex Em Eb Et Ss Sm Wg Wr Md) H1 → va_S A0 s.heap H1 locs1 → W p l e R s m args below meth c H1 locs1 (cells + 1) (slots + 6) Q (F0 m (pc + 3) ls (.int u.2.1 :: rest))) : W p l e R s m args below meth c H locs cells slots Q (F0 m pc ls (.int a0 :: .ref (ad 0) :: rest)) := by
  subst hu
  exact vx_calli (vx_runV (As := [.int a0]) (rest := rest) ⟨hx, hb, hml, hown, hts⟩ (c_X5_take l hst dC dI cI cJ ad hi H.size Bc Bl Pk Pr Pl Pc Pm Gf Gt Gx Gd Gm Ek Er Ea Ex Em Eb Et Ss Sm Wg Wr Md a0 hs) (kV 1 hts hlk mI_X5_take mN_RX5 mY_X5_take mV_X5_take rfl rfl (by decide +kernel) hR) ⟨fun a U g mk q => ⟨q.1, q.2.1, q.2.2.1, va_K.moved (u := U) (U := U.calling g mk a) (Vm.Alike.refl U.vm) q.2.2.2.1, q.2.2.2.2.call⟩, va_recv hK hP (ci := 7) (q0 := 0) rfl rfl, fun U hU hW => ⟨rfl, by rw [hU], by rw [hU]; exact hP, va_K.moved hW.alike hK, hC.here hS hU hW hA⟩⟩ rfl rfl hz rfl (lv_room hw) hd hf) hS (fun q _ h => hA q h) (fun q h => hA q h) (fun q _ h => hA q h) (fun E ce q9 u t H1 locs1 ht hvm hw9 hB hz1 hk1 hS1 h1 h2 h3 => kx hB.1 hw9 H1 locs1 (by rw [← ht]; exact hB.2) hS1 ce q9 h1 h2 h3) (fun r u t H1 locs1 ht hvm hw9 hB hz1 hk1 hS1 => by
    obtain ⟨e1, rfl⟩ := hw9
    exact k e1 H1 locs1 (by rw [← ht]; exact hB) hS1)
theorem qf_X5_take {p : Program} {l : Launch} {e : Env} {R : Room} {s : State} {m : MethodId} {args : Array Value} {below : List Frame} {meth : Method} {c : Code} {H : Heap} {locs : List Loc} {cells slots : Nat} {Q : State → Prop} {pc : Nat} {ls : Array Slot} {rest : List Value} {cc : ByteArray} {nL idx : Nat} {own : String} {A0 : Nat → Prop} {dC : Nat → ClassId} {dI : Nat → Nat → Nat} {cI cJ : ClassId} {ad : Nat → Nat} {Bc : Nat → Int64} {Bl : Nat → Int32} {Pk : Nat → Int32} {Pr : Nat → Int32} {Pl : Nat → Int32} {Pc : Nat → Int64} {Pm : Int32} {Gf : Nat → Int32} {Gt : Nat → Int32} {Gx : Nat → Int32} {Gd : Int32} {Gm : Int32} {Ek : Nat → Int32} {Er : Nat → Int32} {Ea : Nat → Int32} {Ex : Nat → Int32} {Em : Int32} {Eb : Int32} {Et : Int32} {Ss : Nat → Int32} {Sm : Int32} {Wg : Nat → Int64} {Wr : Nat → Int64} {Md : Nat → Int64} (hst : l.stackTraces = false) (hx : p.tables.exec = Jvm.exec) (hb : c.code = cc) (hml : c.maxLocals = nL) (hown : s.vm.findClass own = some m.cls) (hts : ∀ w ∈ bigW, w.before args s = true) (hlk : Cond.methodLink own idx yX5_take ∈ bigW) (hR : 8 ≤ R.frames ∧ 136 ≤ R.locals) (hf : cells + 1 ≤ R.cells ∧ slots + 6 ≤ R.slots) (hz : ls.size = nL) (hw : (rest.map fun v => v.category).sum ≤ 8) (hS : va_S A0 s.heap H locs) (hd : decode cc pc = .ok (.invokevirtual idx, 3)) (hA : ∀ q, fA 23 ad H.size q → A0 q) (hi : fI 23 ad) (hK : va_K (dC, dI) vwCl [(cI, .int), (cJ, .long)] s) (hP : va_P (dC, dI) vwCl (wC ad cI cJ Bc Bl Pk Pr Pl Pc Pm Gf Gt Gx Gd Gm Ek Er Ea Ex Em Eb Et Ss Sm Wg Wr Md) H) (hC : cxt A0 s s.heap) (a0 : Int32) (hs : S_X5_take a0 Bc)  (u : Nat × Int32 × (Nat → Int64)) (hu : u = f_X5_take a0 Bc) (kx : ∀ {E : String} (hE : E = exN u.1) (ho : ¬ u.1 = 0) (H1 : Heap) (locs1 : List Loc), va_P (dC, dI) vwCl (wC ad cI cJ u.2.2 Bl Pk Pr Pl Pc Pm Gf Gt Gx Gd Gm Ek Er Ea Ex Em Eb Et Ss Sm Wg Wr Md) H1 → va_S A0 s.heap H1 locs1 → (∀ q : Nat, q < H.size → ¬ fA 23 ad H.size q → H1[q]? = H[q]?) → H.size ≤ H1.size → ∀ (ce : Cell) (q9 : Addr), H1[q9]? = some ce → ce.vm = .none → s.vm.findClass E = some ce.cls → vx_W p l e R s m args below meth c H1 locs1 (cells + 1) (slots + 6) Q (F0 m pc ls rest) q9) (k : u.1 = 0 → ∀ (H1 : Heap) (locs1 : List Loc), va_P (dC, dI) vwCl (wC ad cI cJ u.2.2 Bl Pk Pr Pl Pc Pm Gf Gt Gx Gd Gm Ek Er Ea Ex Em Eb Et Ss Sm Wg Wr Md) H1 → va_S A0 s.heap H1 locs1 → (∀ q : Nat, q < H.size → ¬ fA 23 ad H.size q → H1[q]? = H[q]?) → H.size ≤ H1.size → W p l e R s m args below meth c H1 locs1 (cells + 1) (slots + 6) Q (F0 m (pc + 3) ls (.int u.2.1 :: rest))) : W p l e R s m args below meth c H locs cells slots Q (F0 m pc ls (.int a0 :: .ref (ad 0) :: rest)) := by
  subst hu
  exact vx_calli (vx_runV (As := [.int a0]) (rest := rest) ⟨hx, hb, hml, hown, hts⟩ (c_X5_take l hst dC dI cI cJ ad hi H.size Bc Bl Pk Pr Pl Pc Pm Gf Gt Gx Gd Gm Ek Er Ea Ex Em Eb Et Ss Sm Wg Wr Md a0 hs) (kV 1 hts hlk mI_X5_take mN_RX5 mY_X5_take mV_X5_take rfl rfl (by decide +kernel) hR) ⟨fun a U g mk q => ⟨q.1, q.2.1, q.2.2.1, va_K.moved (u := U) (U := U.calling g mk a) (Vm.Alike.refl U.vm) q.2.2.2.1, q.2.2.2.2.call⟩, va_recv hK hP (ci := 7) (q0 := 0) rfl rfl, fun U hU hW => ⟨rfl, by rw [hU], by rw [hU]; exact hP, va_K.moved hW.alike hK, hC.here hS hU hW hA⟩⟩ rfl rfl hz rfl (lv_room hw) hd hf) hS (fun q _ h => hA q h) (fun q h => hA q h) (fun q _ h => hA q h) (fun E ce q9 u t H1 locs1 ht hvm hw9 hB hz1 hk1 hS1 h1 h2 h3 => kx hB.1 hw9 H1 locs1 (by rw [← ht]; exact hB.2) hS1 hk1 hz1 ce q9 h1 h2 h3) (fun r u t H1 locs1 ht hvm hw9 hB hz1 hk1 hS1 => by
    obtain ⟨e1, rfl⟩ := hw9
    exact k e1 H1 locs1 (by rw [← ht]; exact hB) hS1 hk1 hz1)

def f_X5_group (Pm : Int32) (Gf : Nat → Int32) (Gt : Nat → Int32) (Gd : Int32) (Gm : Int32) : Nat × Int32 × (Nat → Int32) × (Nat → Int32) × Int32 := (if Gd < 0 then (3, 0, Gf, Gt, Gd) else (if Gd < (20 : Int32) then (let u5 := f_X2_open Pm Gf Gt Gd Gm; (0, u5.2.2, u5.1, u5.2.1, u5.2.2)) else (3, 0, Gf, Gt, Gd)))
def S_X5_group (Pm : Int32) (Gf : Nat → Int32) (Gt : Nat → Int32) (Gd : Int32) (Gm : Int32) : Prop := (Gd < 0 → (True)) ∧ (¬ Gd < 0 → ((Gd < (20 : Int32) → ((S_X2_open Pm Gf Gt Gd Gm) ∧ (∀ u5, u5 = f_X2_open Pm Gf Gt Gd Gm → (True)))) ∧ (¬ Gd < (20 : Int32) → (True))))
set_option maxHeartbeats 4000000 in
set_option maxRecDepth 100000 in
theorem c_X5_group (l : Launch) (hst : l.stackTraces = false) (dC : Nat → ClassId) (dI : Nat → Nat → Nat) (cI cJ : ClassId) (ad : Nat → Nat) (hi : fI 23 ad) (sz : Nat) (Bc : Nat → Int64) (Bl : Nat → Int32) (Pk : Nat → Int32) (Pr : Nat → Int32) (Pl : Nat → Int32) (Pc : Nat → Int64) (Pm : Int32) (Gf : Nat → Int32) (Gt : Nat → Int32) (Gx : Nat → Int32) (Gd : Int32) (Gm : Int32) (Ek : Nat → Int32) (Er : Nat → Int32) (Ea : Nat → Int32) (Ex : Nat → Int32) (Em : Int32) (Eb : Int32) (Et : Int32) (Ss : Nat → Int32) (Sm : Int32) (Wg : Nat → Int64) (Wr : Nat → Int64) (Md : Nat → Int64) (hs : S_X5_group Pm Gf Gt Gd Gm) : vx_Met l yX5_group (mW yX5_group cX5_group 1 (some .int)) { frames := 6, cells := 1, slots := 6, locals := 92 } (va_Pc [.ref (ad 0)] (fun U => U.heap.size = sz ∧ va_P (dC, dI) vwCl (wC ad cI cJ Bc Bl Pk Pr Pl Pc Pm Gf Gt Gx Gd Gm Ek Er Ea Ex Em Eb Et Ss Sm Wg Wr Md) U.heap ∧ va_K (dC, dI) vwCl [(cI, .int), (cJ, .long)] U ∧ cxt (fA 23 ad sz) U U.heap)) (va_Qi (fun (r : Int32) (_ : Unit) => (f_X5_group Pm Gf Gt Gd Gm).1 = 0 ∧ r = (f_X5_group Pm Gf Gt Gd Gm).2.1) (fun _ t => va_P (dC, dI) vwCl (wC ad cI cJ Bc Bl Pk Pr Pl Pc Pm ((f_X5_group Pm Gf Gt Gd Gm).2.2.1) ((f_X5_group Pm Gf Gt Gd Gm).2.2.2.1) Gx ((f_X5_group Pm Gf Gt Gd Gm).2.2.2.2) Gm Ek Er Ea Ex Em Eb Et Ss Sm Wg Wr Md) t.heap) (fA 23 ad sz)) (vx_X (fun _ : Unit => ¬ (f_X5_group Pm Gf Gt Gd Gm).1 = 0) (fun E _ t => E = exN ((f_X5_group Pm Gf Gt Gd Gm).1) ∧ va_P (dC, dI) vwCl (wC ad cI cJ Bc Bl Pk Pr Pl Pc Pm ((f_X5_group Pm Gf Gt Gd Gm).2.2.1) ((f_X5_group Pm Gf Gt Gd Gm).2.2.2.1) Gx ((f_X5_group Pm Gf Gt Gd Gm).2.2.2.2) Gm Ek Er Ea Ex Em Eb Et Ss Sm Wg Wr Md) t.heap) (fA 23 ad sz)) 1 6 (fA 23 ad sz) := by
  refine vx_ofW (cc := cX5_group) (maxL := 1) (ret := (some .int)) (by decide) rfl ?_
  intro p e s m args below meth c s₁ B hml ht hv
  obtain ⟨rfl, hsz, hP, hK, hC⟩ := hv
  have hx := B.exec
  have hb := B.bytes
  have hr := B.returns
  have hts := mW_hts (atoms_spec (ws := (mW yX5_group cX5_group 1 (some .int))) B.pre)
  have hown : s.vm.findClass RX5 = some m.cls := findClass_of_methodNamed B.named
  have hlocks := B.notSynchronized
  subst hsz
  have hA : ∀ (n : Nat) (q : Nat), s.heap.size ≤ n → n ≤ q → fA 23 ad s.heap.size q := fun n q h1 h2 => Or.inr (Nat.le_trans h1 h2)
  have hS : va_S (fA 23 ad s.heap.size) s.heap s.heap [] := va_S.rf
  have hA : ∀ q, s.heap.size ≤ q → (fA 23 ad s.heap.size) q := fun q h => Or.inr h
  unfold S_X5_group at hs
  have hl := lv_entry ([.ref (ad 0)]) (n := 1) (Nat.le_of_ble_eq_true rfl)
  rw [lg_entry_eq]
  generalize (lg_sl ([.ref (ad 0)]) ++ List.replicate (1 - (lg_sl ([.ref (ad 0)])).length) Slot.unset).toArray = ls at hl ⊢
  have hl : lv_has ls 1 [(0, .ref (ad 0))] := hl
  refine W_gen (fun Q9 hQ9 => ?_)
  refine lv_aload_n hx hb dX5_group_0 rfl (lv_at hl 0 rfl) ?_
  refine va_get (D := (dC, dI)) (ci := 7) (v := .ref (ad 9)) (C := RX5) (T := TX5) (N := 8) hx hb hts iW_X5 hown hK hP 0 rfl rfl 2 (by decide) (hts _ mF_RX5_26) (fun _ h9 => h9) rfl dX5_group_1 ?_
  refine va_get (D := (dC, dI)) (ci := 4) (v := .int Gd) (C := RX2) (T := TX2) (N := 5) hx hb hts iW_X2 hown hK hP 9 rfl rfl 3 (by decide) (hts _ mF_RX5_134) (fun _ h9 => h9) rfl dX5_group_4 ?_
  refine lv_if_lt (tgt := 22) hx hb dX5_group_7 (by decide) (fun c1 => ?_) (fun c1 => ?_)
  · have hs := hs.1 c1
    rw [hQ9]
    have hf : f_X5_group Pm Gf Gt Gd Gm = (3, 0, Gf, Gt, Gd) := by simp only [f_X5_group, if_pos c1]
    obtain ⟨sa2, hsa2⟩ := hC.str 10 _ rfl
    refine vx_throwS (mc := 1) (ms := 6) (ik := 138) (ic := 142) (is := 140) (own := RX5) (cls := x_UOE) (text := "no more GROUPS") (names := x_nam) hx hb hst hown (by decide) nm_x (hts _ mC_RX5_138) (hts _ mN_UnsupportedOperationException) hsa2 (xw_UOE hts hC) xg_UOE hC.1 hC.2.1 hS (by rw [hml]; exact hl.1) dX5_group_22 dX5_group_25 dX5_group_26 dX5_group_28 dX5_group_31 (fun x hx => (ht x hx).elim) (Nat.le_of_ble_eq_true rfl) (Nat.le_of_ble_eq_true rfl) (Nat.le_of_ble_eq_true rfl) (Nat.le_of_ble_eq_true rfl) hlocks (fun t hv hz hk => ⟨(), by rw [hf]; exact (by decide : ¬ (3 : Nat) = 0), ⟨by rw [hf]; rfl, by rw [hf]; exact hP.kept (fun k z hkz => hk z.1 (hP k z hkz).lt)⟩, ⟨Nat.le_trans hS.1 hz, fun q h1 h2 => (hk q (Nat.lt_of_lt_of_le h1 hS.1)).trans (hS.2.1 q h1 h2)⟩⟩) hS.2.2 (Nat.le_of_ble_eq_true rfl) (Nat.le_of_ble_eq_true rfl)
  · have hs := hs.2 c1
    refine lv_aload_n hx hb dX5_group_10 rfl (lv_at hl 0 rfl) ?_
    refine va_get (D := (dC, dI)) (ci := 7) (v := .ref (ad 9)) (C := RX5) (T := TX5) (N := 8) hx hb hts iW_X5 hown hK hP 0 rfl rfl 2 (by decide) (hts _ mF_RX5_26) (fun _ h9 => h9) rfl dX5_group_11 ?_
    refine va_get (D := (dC, dI)) (ci := 4) (v := .int Gd) (C := RX2) (T := TX2) (N := 5) hx hb hts iW_X2 hown hK hP 9 rfl rfl 3 (by decide) (hts _ mF_RX5_134) (fun _ h9 => h9) rfl dX5_group_14 ?_
    refine lv_bipush (v := 20) hx hb dX5_group_17 (by decide) ?_
    refine lv_icmp_lt (tgt := 32) hx hb dX5_group_19 (by decide) (fun c3 => ?_) (fun c3 => ?_)
    · have hs := hs.1 c3
      refine lv_aload_n hx hb dX5_group_32 rfl (lv_at hl 0 rfl) ?_
      refine va_get (D := (dC, dI)) (ci := 7) (v := .ref (ad 9)) (C := RX5) (T := TX5) (N := 8) hx hb hts iW_X5 hown hK hP 0 rfl rfl 2 (by decide) (hts _ mF_RX5_26) (fun _ h9 => h9) rfl dX5_group_33 ?_
      refine lv_aload_n hx hb dX5_group_36 rfl (lv_at hl 0 rfl) ?_
      refine va_get (D := (dC, dI)) (ci := 7) (v := .ref (ad 4)) (C := RX5) (T := TX5) (N := 8) hx hb hts iW_X5 hown hK hP 0 rfl rfl 1 (by decide) (hts _ mF_RX5_19) (fun _ h9 => h9) rfl dX5_group_37 ?_
      refine va_get (D := (dC, dI)) (ci := 5) (v := .int Pm) (C := RX3) (T := TX3) (N := 5) hx hb hts iW_X3 hown hK hP 4 rfl rfl 4 (by decide) (hts _ mF_RX5_143) (fun _ h9 => h9) rfl dX5_group_40 ?_
      obtain ⟨h4, hs⟩ := hs
      obtain ⟨u5, hu5⟩ : ∃ z, z = f_X2_open Pm Gf Gt Gd Gm := ⟨_, rfl⟩
      have hs := hs u5 hu5
      refine q_X2_open hx hb hml hown hts mM_RX5_146 ⟨Nat.le_of_ble_eq_true rfl, Nat.le_of_ble_eq_true rfl⟩ ⟨Nat.le_of_ble_eq_true rfl, Nat.le_of_ble_eq_true rfl⟩ hl.1 (Nat.le_of_ble_eq_true rfl) hS dX5_group_43 (fun _ h9 => fA_mono hS.1 h9) hi hK hP Pm h4 u5 hu5 (fun H locs hP hS => ?_)
      refine lv_aload_n hx hb dX5_group_46 rfl (lv_at hl 0 rfl) ?_
      refine va_get (D := (dC, dI)) (ci := 7) (v := .ref (ad 9)) (C := RX5) (T := TX5) (N := 8) hx hb hts iW_X5 hown hK hP 0 rfl rfl 2 (by decide) (hts _ mF_RX5_26) (fun _ h9 => h9) rfl dX5_group_47 ?_
      refine va_get (D := (dC, dI)) (ci := 4) (v := .int u5.2.2) (C := RX2) (T := TX2) (N := 5) hx hb hts iW_X2 hown hK hP 9 rfl rfl 3 (by decide) (hts _ mF_RX5_134) (fun _ h9 => h9) rfl dX5_group_50 ?_
      rw [hQ9]
      have hf : f_X5_group Pm Gf Gt Gd Gm = (0, u5.2.2, u5.1, u5.2.1, u5.2.2) := by simp only [f_X5_group, if_neg c1, if_pos c3, ← hu5]
      refine vx_ret ?_
      refine W.widen (k := 1) (n := 6) (Nat.le_of_ble_eq_true rfl) (Nat.le_of_ble_eq_true rfl) ?_
      exact W.iret (v := u5.2.2) hx hb hr (fun t ht hW => ⟨⟨u5.2.2, (), rfl, ⟨by rw [hf], by rw [hf]⟩, by rw [hf]; show va_P (dC, dI) vwCl _ t.heap; rw [ht]; exact hP⟩, hS.F ht⟩) hS.2.2 dX5_group_53
    · have hs := hs.2 c3
      rw [hQ9]
      have hf : f_X5_group Pm Gf Gt Gd Gm = (3, 0, Gf, Gt, Gd) := by simp only [f_X5_group, if_neg c1, if_neg c3]
      obtain ⟨sa6, hsa6⟩ := hC.str 10 _ rfl
      refine vx_throwS (mc := 1) (ms := 6) (ik := 138) (ic := 142) (is := 140) (own := RX5) (cls := x_UOE) (text := "no more GROUPS") (names := x_nam) hx hb hst hown (by decide) nm_x (hts _ mC_RX5_138) (hts _ mN_UnsupportedOperationException) hsa6 (xw_UOE hts hC) xg_UOE hC.1 hC.2.1 hS (by rw [hml]; exact hl.1) dX5_group_22 dX5_group_25 dX5_group_26 dX5_group_28 dX5_group_31 (fun x hx => (ht x hx).elim) (Nat.le_of_ble_eq_true rfl) (Nat.le_of_ble_eq_true rfl) (Nat.le_of_ble_eq_true rfl) (Nat.le_of_ble_eq_true rfl) hlocks (fun t hv hz hk => ⟨(), by rw [hf]; exact (by decide : ¬ (3 : Nat) = 0), ⟨by rw [hf]; rfl, by rw [hf]; exact hP.kept (fun k z hkz => hk z.1 (hP k z hkz).lt)⟩, ⟨Nat.le_trans hS.1 hz, fun q h1 h2 => (hk q (Nat.lt_of_lt_of_le h1 hS.1)).trans (hS.2.1 q h1 h2)⟩⟩) hS.2.2 (Nat.le_of_ble_eq_true rfl) (Nat.le_of_ble_eq_true rfl)
theorem q_X5_group {p : Program} {l : Launch} {e : Env} {R : Room} {s : State} {m : MethodId} {args : Array Value} {below : List Frame} {meth : Method} {c : Code} {H : Heap} {locs : List Loc} {cells slots : Nat} {Q : State → Prop} {pc : Nat} {ls : Array Slot} {rest : List Value} {cc : ByteArray} {nL idx : Nat} {own : String} {A0 : Nat → Prop} {dC : Nat → ClassId} {dI : Nat → Nat → Nat} {cI cJ : ClassId} {ad : Nat → Nat} {Bc : Nat → Int64} {Bl : Nat → Int32} {Pk : Nat → Int32} {Pr : Nat → Int32} {Pl : Nat → Int32} {Pc : Nat → Int64} {Pm : Int32} {Gf : Nat → Int32} {Gt : Nat → Int32} {Gx : Nat → Int32} {Gd : Int32} {Gm : Int32} {Ek : Nat → Int32} {Er : Nat → Int32} {Ea : Nat → Int32} {Ex : Nat → Int32} {Em : Int32} {Eb : Int32} {Et : Int32} {Ss : Nat → Int32} {Sm : Int32} {Wg : Nat → Int64} {Wr : Nat → Int64} {Md : Nat → Int64} (hst : l.stackTraces = false) (hx : p.tables.exec = Jvm.exec) (hb : c.code = cc) (hml : c.maxLocals = nL) (hown : s.vm.findClass own = some m.cls) (hts : ∀ w ∈ bigW, w.before args s = true) (hlk : Cond.methodLink own idx yX5_group ∈ bigW) (hR : 7 ≤ R.frames ∧ 112 ≤ R.locals) (hf : cells + 1 ≤ R.cells ∧ slots + 6 ≤ R.slots) (hz : ls.size = nL) (hw : (rest.map fun v => v.category).sum ≤ 8) (hS : va_S A0 s.heap H locs) (hd : decode cc pc = .ok (.invokevirtual idx, 3)) (hA : ∀ q, fA 23 ad H.size q → A0 q) (hi : fI 23 ad) (hK : va_K (dC, dI) vwCl [(cI, .int), (cJ, .long)] s) (hP : va_P (dC, dI) vwCl (wC ad cI cJ Bc Bl Pk Pr Pl Pc Pm Gf Gt Gx Gd Gm Ek Er Ea Ex Em Eb Et Ss Sm Wg Wr Md) H) (hC : cxt A0 s s.heap) (hs : S_X5_group Pm Gf Gt Gd Gm)  (u : Nat × Int32 × (Nat → Int32) × (Nat → Int32) × Int32) (hu : u = f_X5_group Pm Gf Gt Gd Gm) (kx : ∀ {E : String} (hE : E = exN u.1) (ho : ¬ u.1 = 0) (H1 : Heap) (locs1 : List Loc), va_P (dC, dI) vwCl (wC ad cI cJ Bc Bl Pk Pr Pl Pc Pm u.2.2.1 u.2.2.2.1 Gx u.2.2.2.2 Gm Ek Er Ea Ex Em Eb Et Ss Sm Wg Wr Md) H1 → va_S A0 s.heap H1 locs1 → ∀ (ce : Cell) (q9 : Addr), H1[q9]? = some ce → ce.vm = .none → s.vm.findClass E = some ce.cls → vx_W p l e R s m args below meth c H1 locs1 (cells + 1) (slots + 6) Q (F0 m pc ls rest) q9) (k : u.1 = 0 → ∀ (H1 : Heap) (locs1 : List Loc), va_P (dC, dI) vwCl (wC ad cI cJ Bc Bl Pk Pr Pl Pc Pm u.2.2.1 u.2.2.2.1 Gx u.2.2.2.2 Gm Ek Er Ea Ex Em Eb Et Ss Sm Wg Wr Md) H1 → va_S A0 s.heap H1 locs1 → W p l e R s m args below meth c H1 locs1 (cells + 1) (slots + 6) Q (F0 m (pc + 3) ls (.int u.2.1 :: rest))) : W p l e R s m args below meth c H locs cells slots Q (F0 m pc ls (.ref (ad 0) :: rest)) := by
  subst hu
  exact vx_calli (vx_runV (As := []) (rest := rest) ⟨hx, hb, hml, hown, hts⟩ (c_X5_group l hst dC dI cI cJ ad hi H.size Bc Bl Pk Pr Pl Pc Pm Gf Gt Gx Gd Gm Ek Er Ea Ex Em Eb Et Ss Sm Wg Wr Md hs) (kV 0 hts hlk mI_X5_group mN_RX5 mY_X5_group mV_X5_group rfl rfl (by decide +kernel) hR) ⟨fun a U g mk q => ⟨q.1, q.2.1, q.2.2.1, va_K.moved (u := U) (U := U.calling g mk a) (Vm.Alike.refl U.vm) q.2.2.2.1, q.2.2.2.2.call⟩, va_recv hK hP (ci := 7) (q0 := 0) rfl rfl, fun U hU hW => ⟨rfl, by rw [hU], by rw [hU]; exact hP, va_K.moved hW.alike hK, hC.here hS hU hW hA⟩⟩ rfl rfl hz rfl (lv_room hw) hd hf) hS (fun q _ h => hA q h) (fun q h => hA q h) (fun q _ h => hA q h) (fun E ce q9 u t H1 locs1 ht hvm hw9 hB hz1 hk1 hS1 h1 h2 h3 => kx hB.1 hw9 H1 locs1 (by rw [← ht]; exact hB.2) hS1 ce q9 h1 h2 h3) (fun r u t H1 locs1 ht hvm hw9 hB hz1 hk1 hS1 => by
    obtain ⟨e1, rfl⟩ := hw9
    exact k e1 H1 locs1 (by rw [← ht]; exact hB) hS1)
theorem qf_X5_group {p : Program} {l : Launch} {e : Env} {R : Room} {s : State} {m : MethodId} {args : Array Value} {below : List Frame} {meth : Method} {c : Code} {H : Heap} {locs : List Loc} {cells slots : Nat} {Q : State → Prop} {pc : Nat} {ls : Array Slot} {rest : List Value} {cc : ByteArray} {nL idx : Nat} {own : String} {A0 : Nat → Prop} {dC : Nat → ClassId} {dI : Nat → Nat → Nat} {cI cJ : ClassId} {ad : Nat → Nat} {Bc : Nat → Int64} {Bl : Nat → Int32} {Pk : Nat → Int32} {Pr : Nat → Int32} {Pl : Nat → Int32} {Pc : Nat → Int64} {Pm : Int32} {Gf : Nat → Int32} {Gt : Nat → Int32} {Gx : Nat → Int32} {Gd : Int32} {Gm : Int32} {Ek : Nat → Int32} {Er : Nat → Int32} {Ea : Nat → Int32} {Ex : Nat → Int32} {Em : Int32} {Eb : Int32} {Et : Int32} {Ss : Nat → Int32} {Sm : Int32} {Wg : Nat → Int64} {Wr : Nat → Int64} {Md : Nat → Int64} (hst : l.stackTraces = false) (hx : p.tables.exec = Jvm.exec) (hb : c.code = cc) (hml : c.maxLocals = nL) (hown : s.vm.findClass own = some m.cls) (hts : ∀ w ∈ bigW, w.before args s = true) (hlk : Cond.methodLink own idx yX5_group ∈ bigW) (hR : 7 ≤ R.frames ∧ 112 ≤ R.locals) (hf : cells + 1 ≤ R.cells ∧ slots + 6 ≤ R.slots) (hz : ls.size = nL) (hw : (rest.map fun v => v.category).sum ≤ 8) (hS : va_S A0 s.heap H locs) (hd : decode cc pc = .ok (.invokevirtual idx, 3)) (hA : ∀ q, fA 23 ad H.size q → A0 q) (hi : fI 23 ad) (hK : va_K (dC, dI) vwCl [(cI, .int), (cJ, .long)] s) (hP : va_P (dC, dI) vwCl (wC ad cI cJ Bc Bl Pk Pr Pl Pc Pm Gf Gt Gx Gd Gm Ek Er Ea Ex Em Eb Et Ss Sm Wg Wr Md) H) (hC : cxt A0 s s.heap) (hs : S_X5_group Pm Gf Gt Gd Gm)  (u : Nat × Int32 × (Nat → Int32) × (Nat → Int32) × Int32) (hu : u = f_X5_group Pm Gf Gt Gd Gm) (kx : ∀ {E : String} (hE : E = exN u.1) (ho : ¬ u.1 = 0) (H1 : Heap) (locs1 : List Loc), va_P (dC, dI) vwCl (wC ad cI cJ Bc Bl Pk Pr Pl Pc Pm u.2.2.1 u.2.2.2.1 Gx u.2.2.2.2 Gm Ek Er Ea Ex Em Eb Et Ss Sm Wg Wr Md) H1 → va_S A0 s.heap H1 locs1 → (∀ q : Nat, q < H.size → ¬ fA 23 ad H.size q → H1[q]? = H[q]?) → H.size ≤ H1.size → ∀ (ce : Cell) (q9 : Addr), H1[q9]? = some ce → ce.vm = .none → s.vm.findClass E = some ce.cls → vx_W p l e R s m args below meth c H1 locs1 (cells + 1) (slots + 6) Q (F0 m pc ls rest) q9) (k : u.1 = 0 → ∀ (H1 : Heap) (locs1 : List Loc), va_P (dC, dI) vwCl (wC ad cI cJ Bc Bl Pk Pr Pl Pc Pm u.2.2.1 u.2.2.2.1 Gx u.2.2.2.2 Gm Ek Er Ea Ex Em Eb Et Ss Sm Wg Wr Md) H1 → va_S A0 s.heap H1 locs1 → (∀ q : Nat, q < H.size → ¬ fA 23 ad H.size q → H1[q]? = H[q]?) → H.size ≤ H1.size → W p l e R s m args below meth c H1 locs1 (cells + 1) (slots + 6) Q (F0 m (pc + 3) ls (.int u.2.1 :: rest))) : W p l e R s m args below meth c H locs cells slots Q (F0 m pc ls (.ref (ad 0) :: rest)) := by
  subst hu
  exact vx_calli (vx_runV (As := []) (rest := rest) ⟨hx, hb, hml, hown, hts⟩ (c_X5_group l hst dC dI cI cJ ad hi H.size Bc Bl Pk Pr Pl Pc Pm Gf Gt Gx Gd Gm Ek Er Ea Ex Em Eb Et Ss Sm Wg Wr Md hs) (kV 0 hts hlk mI_X5_group mN_RX5 mY_X5_group mV_X5_group rfl rfl (by decide +kernel) hR) ⟨fun a U g mk q => ⟨q.1, q.2.1, q.2.2.1, va_K.moved (u := U) (U := U.calling g mk a) (Vm.Alike.refl U.vm) q.2.2.2.1, q.2.2.2.2.call⟩, va_recv hK hP (ci := 7) (q0 := 0) rfl rfl, fun U hU hW => ⟨rfl, by rw [hU], by rw [hU]; exact hP, va_K.moved hW.alike hK, hC.here hS hU hW hA⟩⟩ rfl rfl hz rfl (lv_room hw) hd hf) hS (fun q _ h => hA q h) (fun q h => hA q h) (fun q _ h => hA q h) (fun E ce q9 u t H1 locs1 ht hvm hw9 hB hz1 hk1 hS1 h1 h2 h3 => kx hB.1 hw9 H1 locs1 (by rw [← ht]; exact hB.2) hS1 hk1 hz1 ce q9 h1 h2 h3) (fun r u t H1 locs1 ht hvm hw9 hB hz1 hk1 hS1 => by
    obtain ⟨e1, rfl⟩ := hw9
    exact k e1 H1 locs1 (by rw [← ht]; exact hB) hS1 hk1 hz1)

def f_X5_after (a0 : Int32) (Gt : Nat → Int32) (Gx : Nat → Int32) (Gd : Int32) (Gm : Int32) : Nat × Int32 × (Nat → Int32) × Int32 := (let u1 := f_X5_checkToken a0; (if u1 = 0 then (if 0 < Gd then (if Gm < 0 then (3, 0, Gx, Gm) else (if Gm < (60 : Int32) then (let u8 := f_X2_append a0 Gx Gm; (let u10 := f_X2_firstToken Gt Gd; (0, (u8.2 - u10), u8.1, u8.2))) else (3, 0, Gx, Gm))) else (4, 0, Gx, Gm)) else (u1, 0, Gx, Gm)))
def S_X5_after (a0 : Int32) (Gt : Nat → Int32) (Gx : Nat → Int32) (Gd : Int32) (Gm : Int32) : Prop := ∀ u1, u1 = f_X5_checkToken a0 → (u1 = 0 → ((0 < Gd → ((Gm < 0 → (True)) ∧ (¬ Gm < 0 → ((Gm < (60 : Int32) → ((S_X2_append a0 Gx Gm) ∧ (∀ u8, u8 = f_X2_append a0 Gx Gm → ((S_X2_firstToken Gt Gd) ∧ (∀ u10, u10 = f_X2_firstToken Gt Gd → (True)))))) ∧ (¬ Gm < (60 : Int32) → (True)))))) ∧ (¬ 0 < Gd → (True))))
set_option maxHeartbeats 4000000 in
set_option maxRecDepth 100000 in
theorem c_X5_after (l : Launch) (hst : l.stackTraces = false) (dC : Nat → ClassId) (dI : Nat → Nat → Nat) (cI cJ : ClassId) (ad : Nat → Nat) (hi : fI 23 ad) (sz : Nat) (Bc : Nat → Int64) (Bl : Nat → Int32) (Pk : Nat → Int32) (Pr : Nat → Int32) (Pl : Nat → Int32) (Pc : Nat → Int64) (Pm : Int32) (Gf : Nat → Int32) (Gt : Nat → Int32) (Gx : Nat → Int32) (Gd : Int32) (Gm : Int32) (Ek : Nat → Int32) (Er : Nat → Int32) (Ea : Nat → Int32) (Ex : Nat → Int32) (Em : Int32) (Eb : Int32) (Et : Int32) (Ss : Nat → Int32) (Sm : Int32) (Wg : Nat → Int64) (Wr : Nat → Int64) (Md : Nat → Int64) (a0 : Int32) (hs : S_X5_after a0 Gt Gx Gd Gm) : vx_Met l yX5_after (mW yX5_after cX5_after 2 (some .int)) { frames := 7, cells := 2, slots := 12, locals := 112 } (va_Pc [.ref (ad 0), .int a0] (fun U => U.heap.size = sz ∧ va_P (dC, dI) vwCl (wC ad cI cJ Bc Bl Pk Pr Pl Pc Pm Gf Gt Gx Gd Gm Ek Er Ea Ex Em Eb Et Ss Sm Wg Wr Md) U.heap ∧ va_K (dC, dI) vwCl [(cI, .int), (cJ, .long)] U ∧ cxt (fA 23 ad sz) U U.heap)) (va_Qi (fun (r : Int32) (_ : Unit) => (f_X5_after a0 Gt Gx Gd Gm).1 = 0 ∧ r = (f_X5_after a0 Gt Gx Gd Gm).2.1) (fun _ t => va_P (dC, dI) vwCl (wC ad cI cJ Bc Bl Pk Pr Pl Pc Pm Gf Gt ((f_X5_after a0 Gt Gx Gd Gm).2.2.1) Gd ((f_X5_after a0 Gt Gx Gd Gm).2.2.2) Ek Er Ea Ex Em Eb Et Ss Sm Wg Wr Md) t.heap) (fA 23 ad sz)) (vx_X (fun _ : Unit => ¬ (f_X5_after a0 Gt Gx Gd Gm).1 = 0) (fun E _ t => E = exN ((f_X5_after a0 Gt Gx Gd Gm).1) ∧ va_P (dC, dI) vwCl (wC ad cI cJ Bc Bl Pk Pr Pl Pc Pm Gf Gt ((f_X5_after a0 Gt Gx Gd Gm).2.2.1) Gd ((f_X5_after a0 Gt Gx Gd Gm).2.2.2) Ek Er Ea Ex Em Eb Et Ss Sm Wg Wr Md) t.heap) (fA 23 ad sz)) 2 12 (fA 23 ad sz) := by
  refine vx_ofW (cc := cX5_after) (maxL := 2) (ret := (some .int)) (by decide) rfl ?_
  intro p e s m args below meth c s₁ B hml ht hv
  obtain ⟨rfl, hsz, hP, hK, hC⟩ := hv
  have hx := B.exec
  have hb := B.bytes
  have hr := B.returns
  have hts := mW_hts (atoms_spec (ws := (mW yX5_after cX5_after 2 (some .int))) B.pre)
  have hown : s.vm.findClass RX5 = some m.cls := findClass_of_methodNamed B.named
  have hlocks := B.notSynchronized
  subst hsz
  have hA : ∀ (n : Nat) (q : Nat), s.heap.size ≤ n → n ≤ q → fA 23 ad s.heap.size q := fun n q h1 h2 => Or.inr (Nat.le_trans h1 h2)
  have hS : va_S (fA 23 ad s.heap.size) s.heap s.heap [] := va_S.rf
  have hA : ∀ q, s.heap.size ≤ q → (fA 23 ad s.heap.size) q := fun q h => Or.inr h
  unfold S_X5_after at hs
  have hl := lv_entry ([.ref (ad 0), .int a0]) (n := 2) (Nat.le_of_ble_eq_true rfl)
  rw [lg_entry_eq]
  generalize (lg_sl ([.ref (ad 0), .int a0]) ++ List.replicate (2 - (lg_sl ([.ref (ad 0), .int a0])).length) Slot.unset).toArray = ls at hl ⊢
  have hl : lv_has ls 2 [(0, .ref (ad 0)), (1, .int a0)] := hl
  refine W_gen (fun Q9 hQ9 => ?_)
  refine lv_iload_n hx hb dX5_after_0 rfl (lv_at hl 1 rfl) ?_
  obtain ⟨u1, hu1⟩ : ∃ z, z = f_X5_checkToken a0 := ⟨_, rfl⟩
  have hs := hs u1 hu1
  refine q_X5_checkToken hst hx hb hml hown hts mM_RX5_54 ⟨Nat.le_of_ble_eq_true rfl, Nat.le_of_ble_eq_true rfl⟩ ⟨Nat.le_of_ble_eq_true rfl, Nat.le_of_ble_eq_true rfl⟩ hl.1 (Nat.le_of_ble_eq_true rfl) hS dX5_after_1 hA hC a0 u1 hu1 (fun hE c2 H locs hk hz hS ce q9 h71 h72 h73 => ?_) (fun c2 locs hS => ?_)
  · have hP := hP.kept (H1 := H) (fun k z hkz => hk z.1 (hP k z hkz).lt)
    rw [hQ9]
    have hf : f_X5_after a0 Gt Gx Gd Gm = (u1, 0, Gx, Gm) := by simp only [f_X5_after, ← hu1, if_neg c2]
    refine vx_widen (k := 2) (n := 12) (Nat.le_of_ble_eq_true rfl) (Nat.le_of_ble_eq_true rfl) (vx_out (fun x hx => (ht x hx).elim) hlocks h71 h72 h73 (fun t hh hv => ⟨(), by rw [hf]; exact c2, ⟨by rw [hf]; exact hE, by rw [hf]; show va_P (dC, dI) vwCl _ t.heap; rw [hh]; exact hP⟩, hS.F hh⟩) hS.2.2 (Nat.le_of_ble_eq_true rfl) (Nat.le_of_ble_eq_true rfl))
  · have hs := hs c2
    refine lv_aload_n hx hb dX5_after_4 rfl (lv_at hl 0 rfl) ?_
    refine va_get (D := (dC, dI)) (ci := 7) (v := .ref (ad 9)) (C := RX5) (T := TX5) (N := 8) hx hb hts iW_X5 hown hK hP 0 rfl rfl 2 (by decide) (hts _ mF_RX5_26) (fun _ h9 => h9) rfl dX5_after_5 ?_
    refine va_get (D := (dC, dI)) (ci := 4) (v := .int Gd) (C := RX2) (T := TX2) (N := 5) hx hb hts iW_X2 hown hK hP 9 rfl rfl 3 (by decide) (hts _ mF_RX5_134) (fun _ h9 => h9) rfl dX5_after_8 ?_
    refine lv_if_gt (tgt := 24) hx hb dX5_after_11 (by decide) (fun c3 => ?_) (fun c3 => ?_)
    · have hs := hs.1 c3
      refine lv_aload_n hx hb dX5_after_24 rfl (lv_at hl 0 rfl) ?_
      refine va_get (D := (dC, dI)) (ci := 7) (v := .ref (ad 9)) (C := RX5) (T := TX5) (N := 8) hx hb hts iW_X5 hown hK hP 0 rfl rfl 2 (by decide) (hts _ mF_RX5_26) (fun _ h9 => h9) rfl dX5_after_25 ?_
      refine va_get (D := (dC, dI)) (ci := 4) (v := .int Gm) (C := RX2) (T := TX2) (N := 5) hx hb hts iW_X2 hown hK hP 9 rfl rfl 4 (by decide) (hts _ mF_RX5_154) (fun _ h9 => h9) rfl dX5_after_28 ?_
      refine lv_if_lt (tgt := 46) hx hb dX5_after_31 (by decide) (fun c4 => ?_) (fun c4 => ?_)
      · have hs := hs.1 c4
        rw [hQ9]
        have hf : f_X5_after a0 Gt Gx Gd Gm = (3, 0, Gx, Gm) := by simp only [f_X5_after, ← hu1, if_pos c2, if_pos c3, if_pos c4]
        obtain ⟨sa5, hsa5⟩ := hC.str 12 _ rfl
        refine vx_throwS (mc := 2) (ms := 12) (ik := 138) (ic := 142) (is := 155) (own := RX5) (cls := x_UOE) (text := "no more TOKENS behind GROUPS") (names := x_nam) hx hb hst hown (by decide) nm_x (hts _ mC_RX5_138) (hts _ mN_UnsupportedOperationException) hsa5 (xw_UOE hts hC) xg_UOE hC.1 hC.2.1 hS (by rw [hml]; exact hl.1) dX5_after_46 dX5_after_49 dX5_after_50 dX5_after_52 dX5_after_55 (fun x hx => (ht x hx).elim) (Nat.le_of_ble_eq_true rfl) (Nat.le_of_ble_eq_true rfl) (Nat.le_of_ble_eq_true rfl) (Nat.le_of_ble_eq_true rfl) hlocks (fun t hv hz hk => ⟨(), by rw [hf]; exact (by decide : ¬ (3 : Nat) = 0), ⟨by rw [hf]; rfl, by rw [hf]; exact hP.kept (fun k z hkz => hk z.1 (hP k z hkz).lt)⟩, ⟨Nat.le_trans hS.1 hz, fun q h1 h2 => (hk q (Nat.lt_of_lt_of_le h1 hS.1)).trans (hS.2.1 q h1 h2)⟩⟩) hS.2.2 (Nat.le_of_ble_eq_true rfl) (Nat.le_of_ble_eq_true rfl)
      · have hs := hs.2 c4
        refine lv_aload_n hx hb dX5_after_34 rfl (lv_at hl 0 rfl) ?_
        refine va_get (D := (dC, dI)) (ci := 7) (v := .ref (ad 9)) (C := RX5) (T := TX5) (N := 8) hx hb hts iW_X5 hown hK hP 0 rfl rfl 2 (by decide) (hts _ mF_RX5_26) (fun _ h9 => h9) rfl dX5_after_35 ?_
        refine va_get (D := (dC, dI)) (ci := 4) (v := .int Gm) (C := RX2) (T := TX2) (N := 5) hx hb hts iW_X2 hown hK hP 9 rfl rfl 4 (by decide) (hts _ mF_RX5_154) (fun _ h9 => h9) rfl dX5_after_38 ?_
        refine lv_bipush (v := 60) hx hb dX5_after_41 (by decide) ?_
        refine lv_icmp_lt (tgt := 56) hx hb dX5_after_43 (by decide) (fun c6 => ?_) (fun c6 => ?_)
        · have hs := hs.1 c6
          refine lv_aload_n hx hb dX5_after_56 rfl (lv_at hl 0 rfl) ?_
          refine va_get (D := (dC, dI)) (ci := 7) (v := .ref (ad 9)) (C := RX5) (T := TX5) (N := 8) hx hb hts iW_X5 hown hK hP 0 rfl rfl 2 (by decide) (hts _ mF_RX5_26) (fun _ h9 => h9) rfl dX5_after_57 ?_
          refine lv_iload_n hx hb dX5_after_60 rfl (lv_at hl 1 rfl) ?_
          obtain ⟨h7, hs⟩ := hs
          obtain ⟨u8, hu8⟩ : ∃ z, z = f_X2_append a0 Gx Gm := ⟨_, rfl⟩
          have hs := hs u8 hu8
          refine q_X2_append hx hb hml hown hts mM_RX5_157 ⟨Nat.le_of_ble_eq_true rfl, Nat.le_of_ble_eq_true rfl⟩ ⟨Nat.le_of_ble_eq_true rfl, Nat.le_of_ble_eq_true rfl⟩ hl.1 (Nat.le_of_ble_eq_true rfl) hS dX5_after_61 (fun _ h9 => fA_mono hS.1 h9) hi hK hP a0 h7 u8 hu8 (fun H locs hP hS => ?_)
          refine lv_aload_n hx hb dX5_after_64 rfl (lv_at hl 0 rfl) ?_
          refine va_get (D := (dC, dI)) (ci := 7) (v := .ref (ad 9)) (C := RX5) (T := TX5) (N := 8) hx hb hts iW_X5 hown hK hP 0 rfl rfl 2 (by decide) (hts _ mF_RX5_26) (fun _ h9 => h9) rfl dX5_after_65 ?_
          refine va_get (D := (dC, dI)) (ci := 4) (v := .int u8.2) (C := RX2) (T := TX2) (N := 5) hx hb hts iW_X2 hown hK hP 9 rfl rfl 4 (by decide) (hts _ mF_RX5_154) (fun _ h9 => h9) rfl dX5_after_68 ?_
          refine lv_aload_n hx hb dX5_after_71 rfl (lv_at hl 0 rfl) ?_
          refine va_get (D := (dC, dI)) (ci := 7) (v := .ref (ad 9)) (C := RX5) (T := TX5) (N := 8) hx hb hts iW_X5 hown hK hP 0 rfl rfl 2 (by decide) (hts _ mF_RX5_26) (fun _ h9 => h9) rfl dX5_after_72 ?_
          obtain ⟨h9, hs⟩ := hs
          obtain ⟨u10, hu10⟩ : ∃ z, z = f_X2_firstToken Gt Gd := ⟨_, rfl⟩
          have hs := hs u10 hu10
          refine q_X2_firstToken hx hb hml hown hts mM_RX5_160 ⟨Nat.le_of_ble_eq_true rfl, Nat.le_of_ble_eq_true rfl⟩ ⟨Nat.le_of_ble_eq_true rfl, Nat.le_of_ble_eq_true rfl⟩ hl.1 (Nat.le_of_ble_eq_true rfl) hS dX5_after_75 (fun _ h9 => fA_mono hS.1 h9) hi hK hP h9 u10 hu10 (fun H locs hP hS => ?_)
          refine lv_isub hx hb dX5_after_78 ?_
          rw [hQ9]
          have hf : f_X5_after a0 Gt Gx Gd Gm = (0, (u8.2 - u10), u8.1, u8.2) := by simp only [f_X5_after, ← hu1, if_pos c2, if_pos c3, if_neg c4, if_pos c6, ← hu8, ← hu10]
          refine vx_ret ?_
          refine W.widen (k := 2) (n := 12) (Nat.le_of_ble_eq_true rfl) (Nat.le_of_ble_eq_true rfl) ?_
          exact W.iret (v := (u8.2 - u10)) hx hb hr (fun t ht hW => ⟨⟨(u8.2 - u10), (), rfl, ⟨by rw [hf], by rw [hf]⟩, by rw [hf]; show va_P (dC, dI) vwCl _ t.heap; rw [ht]; exact hP⟩, hS.F ht⟩) hS.2.2 dX5_after_79
        · have hs := hs.2 c6
          rw [hQ9]
          have hf : f_X5_after a0 Gt Gx Gd Gm = (3, 0, Gx, Gm) := by simp only [f_X5_after, ← hu1, if_pos c2, if_pos c3, if_neg c4, if_neg c6]
          obtain ⟨sa11, hsa11⟩ := hC.str 12 _ rfl
          refine vx_throwS (mc := 2) (ms := 12) (ik := 138) (ic := 142) (is := 155) (own := RX5) (cls := x_UOE) (text := "no more TOKENS behind GROUPS") (names := x_nam) hx hb hst hown (by decide) nm_x (hts _ mC_RX5_138) (hts _ mN_UnsupportedOperationException) hsa11 (xw_UOE hts hC) xg_UOE hC.1 hC.2.1 hS (by rw [hml]; exact hl.1) dX5_after_46 dX5_after_49 dX5_after_50 dX5_after_52 dX5_after_55 (fun x hx => (ht x hx).elim) (Nat.le_of_ble_eq_true rfl) (Nat.le_of_ble_eq_true rfl) (Nat.le_of_ble_eq_true rfl) (Nat.le_of_ble_eq_true rfl) hlocks (fun t hv hz hk => ⟨(), by rw [hf]; exact (by decide : ¬ (3 : Nat) = 0), ⟨by rw [hf]; rfl, by rw [hf]; exact hP.kept (fun k z hkz => hk z.1 (hP k z hkz).lt)⟩, ⟨Nat.le_trans hS.1 hz, fun q h1 h2 => (hk q (Nat.lt_of_lt_of_le h1 hS.1)).trans (hS.2.1 q h1 h2)⟩⟩) hS.2.2 (Nat.le_of_ble_eq_true rfl) (Nat.le_of_ble_eq_true rfl)
    · have hs := hs.2 c3
      rw [hQ9]
      have hf : f_X5_after a0 Gt Gx Gd Gm = (4, 0, Gx, Gm) := by simp only [f_X5_after, ← hu1, if_pos c2, if_neg c3]
      obtain ⟨sa12, hsa12⟩ := hC.str 11 _ rfl
      refine vx_throwS (mc := 2) (ms := 12) (ik := 149) (ic := 153) (is := 151) (own := RX5) (cls := x_ISE) (text := "no GROUP") (names := x_nam) hx hb hst hown (by decide) nm_x (hts _ mC_RX5_149) (hts _ mN_IllegalStateException) hsa12 (xw_ISE hts hC) xg_ISE hC.1 hC.2.1 hS (by rw [hml]; exact hl.1) dX5_after_14 dX5_after_17 dX5_after_18 dX5_after_20 dX5_after_23 (fun x hx => (ht x hx).elim) (Nat.le_of_ble_eq_true rfl) (Nat.le_of_ble_eq_true rfl) (Nat.le_of_ble_eq_true rfl) (Nat.le_of_ble_eq_true rfl) hlocks (fun t hv hz hk => ⟨(), by rw [hf]; exact (by decide : ¬ (4 : Nat) = 0), ⟨by rw [hf]; rfl, by rw [hf]; exact hP.kept (fun k z hkz => hk z.1 (hP k z hkz).lt)⟩, ⟨Nat.le_trans hS.1 hz, fun q h1 h2 => (hk q (Nat.lt_of_lt_of_le h1 hS.1)).trans (hS.2.1 q h1 h2)⟩⟩) hS.2.2 (Nat.le_of_ble_eq_true rfl) (Nat.le_of_ble_eq_true rfl)
theorem q_X5_after {p : Program} {l : Launch} {e : Env} {R : Room} {s : State} {m : MethodId} {args : Array Value} {below : List Frame} {meth : Method} {c : Code} {H : Heap} {locs : List Loc} {cells slots : Nat} {Q : State → Prop} {pc : Nat} {ls : Array Slot} {rest : List Value} {cc : ByteArray} {nL idx : Nat} {own : String} {A0 : Nat → Prop} {dC : Nat → ClassId} {dI : Nat → Nat → Nat} {cI cJ : ClassId} {ad : Nat → Nat} {Bc : Nat → Int64} {Bl : Nat → Int32} {Pk : Nat → Int32} {Pr : Nat → Int32} {Pl : Nat → Int32} {Pc : Nat → Int64} {Pm : Int32} {Gf : Nat → Int32} {Gt : Nat → Int32} {Gx : Nat → Int32} {Gd : Int32} {Gm : Int32} {Ek : Nat → Int32} {Er : Nat → Int32} {Ea : Nat → Int32} {Ex : Nat → Int32} {Em : Int32} {Eb : Int32} {Et : Int32} {Ss : Nat → Int32} {Sm : Int32} {Wg : Nat → Int64} {Wr : Nat → Int64} {Md : Nat → Int64} (hst : l.stackTraces = false) (hx : p.tables.exec = Jvm.exec) (hb : c.code = cc) (hml : c.maxLocals = nL) (hown : s.vm.findClass own = some m.cls) (hts : ∀ w ∈ bigW, w.before args s = true) (hlk : Cond.methodLink own idx yX5_after ∈ bigW) (hR : 8 ≤ R.frames ∧ 133 ≤ R.locals) (hf : cells + 2 ≤ R.cells ∧ slots + 12 ≤ R.slots) (hz : ls.size = nL) (hw : (rest.map fun v => v.category).sum ≤ 8) (hS : va_S A0 s.heap H locs) (hd : decode cc pc = .ok (.invokevirtual idx, 3)) (hA : ∀ q, fA 23 ad H.size q → A0 q) (hi : fI 23 ad) (hK : va_K (dC, dI) vwCl [(cI, .int), (cJ, .long)] s) (hP : va_P (dC, dI) vwCl (wC ad cI cJ Bc Bl Pk Pr Pl Pc Pm Gf Gt Gx Gd Gm Ek Er Ea Ex Em Eb Et Ss Sm Wg Wr Md) H) (hC : cxt A0 s s.heap) (a0 : Int32) (hs : S_X5_after a0 Gt Gx Gd Gm)  (u : Nat × Int32 × (Nat → Int32) × Int32) (hu : u = f_X5_after a0 Gt Gx Gd Gm) (kx : ∀ {E : String} (hE : E = exN u.1) (ho : ¬ u.1 = 0) (H1 : Heap) (locs1 : List Loc), va_P (dC, dI) vwCl (wC ad cI cJ Bc Bl Pk Pr Pl Pc Pm Gf Gt u.2.2.1 Gd u.2.2.2 Ek Er Ea Ex Em Eb Et Ss Sm Wg Wr Md) H1 → va_S A0 s.heap H1 locs1 → ∀ (ce : Cell) (q9 : Addr), H1[q9]? = some ce → ce.vm = .none → s.vm.findClass E = some ce.cls → vx_W p l e R s m args below meth c H1 locs1 (cells + 2) (slots + 12) Q (F0 m pc ls rest) q9) (k : u.1 = 0 → ∀ (H1 : Heap) (locs1 : List Loc), va_P (dC, dI) vwCl (wC ad cI cJ Bc Bl Pk Pr Pl Pc Pm Gf Gt u.2.2.1 Gd u.2.2.2 Ek Er Ea Ex Em Eb Et Ss Sm Wg Wr Md) H1 → va_S A0 s.heap H1 locs1 → W p l e R s m args below meth c H1 locs1 (cells + 2) (slots + 12) Q (F0 m (pc + 3) ls (.int u.2.1 :: rest))) : W p l e R s m args below meth c H locs cells slots Q (F0 m pc ls (.int a0 :: .ref (ad 0) :: rest)) := by
  subst hu
  exact vx_calli (vx_runV (As := [.int a0]) (rest := rest) ⟨hx, hb, hml, hown, hts⟩ (c_X5_after l hst dC dI cI cJ ad hi H.size Bc Bl Pk Pr Pl Pc Pm Gf Gt Gx Gd Gm Ek Er Ea Ex Em Eb Et Ss Sm Wg Wr Md a0 hs) (kV 1 hts hlk mI_X5_after mN_RX5 mY_X5_after mV_X5_after rfl rfl (by decide +kernel) hR) ⟨fun a U g mk q => ⟨q.1, q.2.1, q.2.2.1, va_K.moved (u := U) (U := U.calling g mk a) (Vm.Alike.refl U.vm) q.2.2.2.1, q.2.2.2.2.call⟩, va_recv hK hP (ci := 7) (q0 := 0) rfl rfl, fun U hU hW => ⟨rfl, by rw [hU], by rw [hU]; exact hP, va_K.moved hW.alike hK, hC.here hS hU hW hA⟩⟩ rfl rfl hz rfl (lv_room hw) hd hf) hS (fun q _ h => hA q h) (fun q h => hA q h) (fun q _ h => hA q h) (fun E ce q9 u t H1 locs1 ht hvm hw9 hB hz1 hk1 hS1 h1 h2 h3 => kx hB.1 hw9 H1 locs1 (by rw [← ht]; exact hB.2) hS1 ce q9 h1 h2 h3) (fun r u t H1 locs1 ht hvm hw9 hB hz1 hk1 hS1 => by
    obtain ⟨e1, rfl⟩ := hw9
    exact k e1 H1 locs1 (by rw [← ht]; exact hB) hS1)
theorem qf_X5_after {p : Program} {l : Launch} {e : Env} {R : Room} {s : State} {m : MethodId} {args : Array Value} {below : List Frame} {meth : Method} {c : Code} {H : Heap} {locs : List Loc} {cells slots : Nat} {Q : State → Prop} {pc : Nat} {ls : Array Slot} {rest : List Value} {cc : ByteArray} {nL idx : Nat} {own : String} {A0 : Nat → Prop} {dC : Nat → ClassId} {dI : Nat → Nat → Nat} {cI cJ : ClassId} {ad : Nat → Nat} {Bc : Nat → Int64} {Bl : Nat → Int32} {Pk : Nat → Int32} {Pr : Nat → Int32} {Pl : Nat → Int32} {Pc : Nat → Int64} {Pm : Int32} {Gf : Nat → Int32} {Gt : Nat → Int32} {Gx : Nat → Int32} {Gd : Int32} {Gm : Int32} {Ek : Nat → Int32} {Er : Nat → Int32} {Ea : Nat → Int32} {Ex : Nat → Int32} {Em : Int32} {Eb : Int32} {Et : Int32} {Ss : Nat → Int32} {Sm : Int32} {Wg : Nat → Int64} {Wr : Nat → Int64} {Md : Nat → Int64} (hst : l.stackTraces = false) (hx : p.tables.exec = Jvm.exec) (hb : c.code = cc) (hml : c.maxLocals = nL) (hown : s.vm.findClass own = some m.cls) (hts : ∀ w ∈ bigW, w.before args s = true) (hlk : Cond.methodLink own idx yX5_after ∈ bigW) (hR : 8 ≤ R.frames ∧ 133 ≤ R.locals) (hf : cells + 2 ≤ R.cells ∧ slots + 12 ≤ R.slots) (hz : ls.size = nL) (hw : (rest.map fun v => v.category).sum ≤ 8) (hS : va_S A0 s.heap H locs) (hd : decode cc pc = .ok (.invokevirtual idx, 3)) (hA : ∀ q, fA 23 ad H.size q → A0 q) (hi : fI 23 ad) (hK : va_K (dC, dI) vwCl [(cI, .int), (cJ, .long)] s) (hP : va_P (dC, dI) vwCl (wC ad cI cJ Bc Bl Pk Pr Pl Pc Pm Gf Gt Gx Gd Gm Ek Er Ea Ex Em Eb Et Ss Sm Wg Wr Md) H) (hC : cxt A0 s s.heap) (a0 : Int32) (hs : S_X5_after a0 Gt Gx Gd Gm)  (u : Nat × Int32 × (Nat → Int32) × Int32) (hu : u = f_X5_after a0 Gt Gx Gd Gm) (kx : ∀ {E : String} (hE : E = exN u.1) (ho : ¬ u.1 = 0) (H1 : Heap) (locs1 : List Loc), va_P (dC, dI) vwCl (wC ad cI cJ Bc Bl Pk Pr Pl Pc Pm Gf Gt u.2.2.1 Gd u.2.2.2 Ek Er Ea Ex Em Eb Et Ss Sm Wg Wr Md) H1 → va_S A0 s.heap H1 locs1 → (∀ q : Nat, q < H.size → ¬ fA 23 ad H.size q → H1[q]? = H[q]?) → H.size ≤ H1.size → ∀ (ce : Cell) (q9 : Addr), H1[q9]? = some ce → ce.vm = .none → s.vm.findClass E = some ce.cls → vx_W p l e R s m args below meth c H1 locs1 (cells + 2) (slots + 12) Q (F0 m pc ls rest) q9) (k : u.1 = 0 → ∀ (H1 : Heap) (locs1 : List Loc), va_P (dC, dI) vwCl (wC ad cI cJ Bc Bl Pk Pr Pl Pc Pm Gf Gt u.2.2.1 Gd u.2.2.2 Ek Er Ea Ex Em Eb Et Ss Sm Wg Wr Md) H1 → va_S A0 s.heap H1 locs1 → (∀ q : Nat, q < H.size → ¬ fA 23 ad H.size q → H1[q]? = H[q]?) → H.size ≤ H1.size → W p l e R s m args below meth c H1 locs1 (cells + 2) (slots + 12) Q (F0 m (pc + 3) ls (.int u.2.1 :: rest))) : W p l e R s m args below meth c H locs cells slots Q (F0 m pc ls (.int a0 :: .ref (ad 0) :: rest)) := by
  subst hu
  exact vx_calli (vx_runV (As := [.int a0]) (rest := rest) ⟨hx, hb, hml, hown, hts⟩ (c_X5_after l hst dC dI cI cJ ad hi H.size Bc Bl Pk Pr Pl Pc Pm Gf Gt Gx Gd Gm Ek Er Ea Ex Em Eb Et Ss Sm Wg Wr Md a0 hs) (kV 1 hts hlk mI_X5_after mN_RX5 mY_X5_after mV_X5_after rfl rfl (by decide +kernel) hR) ⟨fun a U g mk q => ⟨q.1, q.2.1, q.2.2.1, va_K.moved (u := U) (U := U.calling g mk a) (Vm.Alike.refl U.vm) q.2.2.2.1, q.2.2.2.2.call⟩, va_recv hK hP (ci := 7) (q0 := 0) rfl rfl, fun U hU hW => ⟨rfl, by rw [hU], by rw [hU]; exact hP, va_K.moved hW.alike hK, hC.here hS hU hW hA⟩⟩ rfl rfl hz rfl (lv_room hw) hd hf) hS (fun q _ h => hA q h) (fun q h => hA q h) (fun q _ h => hA q h) (fun E ce q9 u t H1 locs1 ht hvm hw9 hB hz1 hk1 hS1 h1 h2 h3 => kx hB.1 hw9 H1 locs1 (by rw [← ht]; exact hB.2) hS1 hk1 hz1 ce q9 h1 h2 h3) (fun r u t H1 locs1 ht hvm hw9 hB hz1 hk1 hS1 => by
    obtain ⟨e1, rfl⟩ := hw9
    exact k e1 H1 locs1 (by rw [← ht]; exact hB) hS1 hk1 hz1)

def L_X5_giveBackKept_10 : Nat → Int32 → (Nat → Int64) → (Nat → Int32) → (Nat → Int32) → (Nat → Int32) → (Nat → Int32) → Int32 → Int32 → Int32 → (Nat → Int32) → (Nat → Int32) → (Nat → Int32) → (Nat → Int64) → Int32 × (Nat → Int64) × (Nat → Int32) × (Nat → Int32) × (Nat → Int32) × (Nat → Int32) × Int32 × Int32
  | 0, x2, Bc, Bl, Ek, Er, Ea, Em, Eb, x1, Pk, Pr, Pl, Pc => (x2, Bc, Bl, Ek, Er, Ea, Em, Eb)
  | n + 1, x2, Bc, Bl, Ek, Er, Ea, Em, Eb, x1, Pk, Pr, Pl, Pc => (if x2 < x1 then (x2, Bc, Bl, Ek, Er, Ea, Em, Eb) else (if x2 < 0 then (x2, Bc, Bl, Ek, Er, Ea, Em, Eb) else (if (200 : Int32) ≤ x2 then (x2, Bc, Bl, Ek, Er, Ea, Em, Eb) else (if (f_X5_within ((Pk x2.toNatClampNeg).toInt64) (0 : Int64) (4 : Int64)) = 0 then L_X5_giveBackKept_10 n (x2 + (-1)) Bc Bl Ek Er Ea Em Eb x1 Pk Pr Pl Pc else (if (f_X5_within ((Pr x2.toNatClampNeg).toInt64) (0 : Int64) (31 : Int64)) = 0 then L_X5_giveBackKept_10 n (x2 + (-1)) Bc Bl Ek Er Ea Em Eb x1 Pk Pr Pl Pc else (if (Bl (f_X0_place (Pk x2.toNatClampNeg) (Pr x2.toNatClampNeg)).toNatClampNeg) = 0 then (let u12 := f_X1_append (Pk x2.toNatClampNeg) (Pr x2.toNatClampNeg) (0 : Int32) Ek Er Ea Em Eb; L_X5_giveBackKept_10 n (x2 + (-1)) Bc Bl u12.1 u12.2.1 u12.2.2.1 u12.2.2.2.1 u12.2.2.2.2 x1 Pk Pr Pl Pc) else (let u15 := f_X0_copyFromP (x2 * (21 : Int32)) (Pk x2.toNatClampNeg) (Pr x2.toNatClampNeg) Bc Pc; (let u19 := f_X1_append (Pk x2.toNatClampNeg) (Pr x2.toNatClampNeg) (1 : Int32) Ek Er Ea Em Eb; L_X5_giveBackKept_10 n (x2 + (-1)) u15 (upd Bl (f_X0_place (Pk x2.toNatClampNeg) (Pr x2.toNatClampNeg)).toNatClampNeg (Pl x2.toNatClampNeg)) u19.1 u19.2.1 u19.2.2.1 u19.2.2.2.1 u19.2.2.2.2 x1 Pk Pr Pl Pc))))))))
def SL_X5_giveBackKept_10 : Nat → Int32 → (Nat → Int64) → (Nat → Int32) → (Nat → Int32) → (Nat → Int32) → (Nat → Int32) → Int32 → Int32 → Int32 → (Nat → Int32) → (Nat → Int32) → (Nat → Int32) → (Nat → Int64) → Prop
  | 0, _, _, _, _, _, _, _, _, _, _, _, _, _ => False
  | n + 1, x2, Bc, Bl, Ek, Er, Ea, Em, Eb, x1, Pk, Pr, Pl, Pc => (x2 < x1 → (True)) ∧ (¬ x2 < x1 → ((x2 < 0 → (True)) ∧ (¬ x2 < 0 → (((200 : Int32) ≤ x2 → (True)) ∧ (¬ (200 : Int32) ≤ x2 → ((vp_in x2 200) ∧ ((vp_in x2 200) ∧ (((f_X5_within ((Pk x2.toNatClampNeg).toInt64) (0 : Int64) (4 : Int64)) = 0 → (SL_X5_giveBackKept_10 n (x2 + (-1)) Bc Bl Ek Er Ea Em Eb x1 Pk Pr Pl Pc)) ∧ (¬ (f_X5_within ((Pk x2.toNatClampNeg).toInt64) (0 : Int64) (4 : Int64)) = 0 → (((f_X5_within ((Pr x2.toNatClampNeg).toInt64) (0 : Int64) (31 : Int64)) = 0 → (SL_X5_giveBackKept_10 n (x2 + (-1)) Bc Bl Ek Er Ea Em Eb x1 Pk Pr Pl Pc)) ∧ (¬ (f_X5_within ((Pr x2.toNatClampNeg).toInt64) (0 : Int64) (31 : Int64)) = 0 → ((vp_in (f_X0_place (Pk x2.toNatClampNeg) (Pr x2.toNatClampNeg)) 160) ∧ (((Bl (f_X0_place (Pk x2.toNatClampNeg) (Pr x2.toNatClampNeg)).toNatClampNeg) = 0 → ((S_X1_append (Pk x2.toNatClampNeg) (Pr x2.toNatClampNeg) (0 : Int32) Ek Er Ea Em Eb) ∧ (∀ u12, u12 = f_X1_append (Pk x2.toNatClampNeg) (Pr x2.toNatClampNeg) (0 : Int32) Ek Er Ea Em Eb → (SL_X5_giveBackKept_10 n (x2 + (-1)) Bc Bl u12.1 u12.2.1 u12.2.2.1 u12.2.2.2.1 u12.2.2.2.2 x1 Pk Pr Pl Pc)))) ∧ (¬ (Bl (f_X0_place (Pk x2.toNatClampNeg) (Pr x2.toNatClampNeg)).toNatClampNeg) = 0 → ((S_X0_copyFromP (x2 * (21 : Int32)) (Pk x2.toNatClampNeg) (Pr x2.toNatClampNeg) Bc Pc) ∧ (∀ u15, u15 = f_X0_copyFromP (x2 * (21 : Int32)) (Pk x2.toNatClampNeg) (Pr x2.toNatClampNeg) Bc Pc → ((vp_in x2 200) ∧ ((vp_in (f_X0_place (Pk x2.toNatClampNeg) (Pr x2.toNatClampNeg)) 160) ∧ ((S_X1_append (Pk x2.toNatClampNeg) (Pr x2.toNatClampNeg) (1 : Int32) Ek Er Ea Em Eb) ∧ (∀ u19, u19 = f_X1_append (Pk x2.toNatClampNeg) (Pr x2.toNatClampNeg) (1 : Int32) Ek Er Ea Em Eb → (SL_X5_giveBackKept_10 n (x2 + (-1)) u15 (upd Bl (f_X0_place (Pk x2.toNatClampNeg) (Pr x2.toNatClampNeg)).toNatClampNeg (Pl x2.toNatClampNeg)) u19.1 u19.2.1 u19.2.2.1 u19.2.2.2.1 u19.2.2.2.2 x1 Pk Pr Pl Pc)))))))))))))))))))))
def f_X5_giveBackKept (a0 : Int32) (Bc : Nat → Int64) (Bl : Nat → Int32) (Pk : Nat → Int32) (Pr : Nat → Int32) (Pl : Nat → Int32) (Pc : Nat → Int64) (Pm : Int32) (Ek : Nat → Int32) (Er : Nat → Int32) (Ea : Nat → Int32) (Em : Int32) (Eb : Int32) : (Nat → Int64) × (Nat → Int32) × Int32 × (Nat → Int32) × (Nat → Int32) × (Nat → Int32) × Int32 × Int32 := (let u1 := L_X5_giveBackKept_10 201 (Pm - (1 : Int32)) Bc Bl Ek Er Ea Em Eb a0 Pk Pr Pl Pc; (u1.2.1, u1.2.2.1, a0, u1.2.2.2.1, u1.2.2.2.2.1, u1.2.2.2.2.2.1, u1.2.2.2.2.2.2.1, u1.2.2.2.2.2.2.2))
def S_X5_giveBackKept (a0 : Int32) (Bc : Nat → Int64) (Bl : Nat → Int32) (Pk : Nat → Int32) (Pr : Nat → Int32) (Pl : Nat → Int32) (Pc : Nat → Int64) (Pm : Int32) (Ek : Nat → Int32) (Er : Nat → Int32) (Ea : Nat → Int32) (Em : Int32) (Eb : Int32) : Prop := (SL_X5_giveBackKept_10 201 (Pm - (1 : Int32)) Bc Bl Ek Er Ea Em Eb a0 Pk Pr Pl Pc) ∧ (∀ u1, u1 = L_X5_giveBackKept_10 201 (Pm - (1 : Int32)) Bc Bl Ek Er Ea Em Eb a0 Pk Pr Pl Pc → (True))
set_option maxHeartbeats 4000000 in
set_option maxRecDepth 100000 in
theorem c_X5_giveBackKept (l : Launch) (dC : Nat → ClassId) (dI : Nat → Nat → Nat) (cI cJ : ClassId) (ad : Nat → Nat) (hi : fI 23 ad) (sz : Nat) (Bc : Nat → Int64) (Bl : Nat → Int32) (Pk : Nat → Int32) (Pr : Nat → Int32) (Pl : Nat → Int32) (Pc : Nat → Int64) (Pm : Int32) (Gf : Nat → Int32) (Gt : Nat → Int32) (Gx : Nat → Int32) (Gd : Int32) (Gm : Int32) (Ek : Nat → Int32) (Er : Nat → Int32) (Ea : Nat → Int32) (Ex : Nat → Int32) (Em : Int32) (Eb : Int32) (Et : Int32) (Ss : Nat → Int32) (Sm : Int32) (Wg : Nat → Int64) (Wr : Nat → Int64) (Md : Nat → Int64) (a0 : Int32) (hs : S_X5_giveBackKept a0 Bc Bl Pk Pr Pl Pc Pm Ek Er Ea Em Eb) : Met l yX5_giveBackKept (mW yX5_giveBackKept cX5_giveBackKept 7 none) { frames := 2, cells := 0, slots := 0, locals := 84 } (va_Pc [.ref (ad 0), .int a0] (fun U => U.heap.size = sz ∧ va_P (dC, dI) vwCl (wC ad cI cJ Bc Bl Pk Pr Pl Pc Pm Gf Gt Gx Gd Gm Ek Er Ea Ex Em Eb Et Ss Sm Wg Wr Md) U.heap ∧ va_K (dC, dI) vwCl [(cI, .int), (cJ, .long)] U ∧ cxt (fA 23 ad sz) U U.heap)) (va_Qv (fun (_ : Unit) => True) (fun _ t => va_P (dC, dI) vwCl (wC ad cI cJ ((f_X5_giveBackKept a0 Bc Bl Pk Pr Pl Pc Pm Ek Er Ea Em Eb).1) ((f_X5_giveBackKept a0 Bc Bl Pk Pr Pl Pc Pm Ek Er Ea Em Eb).2.1) Pk Pr Pl Pc ((f_X5_giveBackKept a0 Bc Bl Pk Pr Pl Pc Pm Ek Er Ea Em Eb).2.2.1) Gf Gt Gx Gd Gm ((f_X5_giveBackKept a0 Bc Bl Pk Pr Pl Pc Pm Ek Er Ea Em Eb).2.2.2.1) ((f_X5_giveBackKept a0 Bc Bl Pk Pr Pl Pc Pm Ek Er Ea Em Eb).2.2.2.2.1) ((f_X5_giveBackKept a0 Bc Bl Pk Pr Pl Pc Pm Ek Er Ea Em Eb).2.2.2.2.2.1) Ex ((f_X5_giveBackKept a0 Bc Bl Pk Pr Pl Pc Pm Ek Er Ea Em Eb).2.2.2.2.2.2.1) ((f_X5_giveBackKept a0 Bc Bl Pk Pr Pl Pc Pm Ek Er Ea Em Eb).2.2.2.2.2.2.2) Et Ss Sm Wg Wr Md) t.heap) (fA 23 ad sz)) 0 0 (fA 23 ad sz) := by
  refine Met.ofW (cc := cX5_giveBackKept) (maxL := 7) (ret := none) (by decide) rfl ?_
  intro p e s m args below meth c s₁ B hml hv
  obtain ⟨rfl, hsz, hP, hK, hC⟩ := hv
  have hx := B.exec
  have hb := B.bytes
  have hr := B.returns
  have hts := mW_hts (atoms_spec (ws := (mW yX5_giveBackKept cX5_giveBackKept 7 none)) B.pre)
  have hown : s.vm.findClass RX5 = some m.cls := findClass_of_methodNamed B.named
  have hlocks := B.notSynchronized
  subst hsz
  have hA : ∀ (n : Nat) (q : Nat), s.heap.size ≤ n → n ≤ q → fA 23 ad s.heap.size q := fun n q h1 h2 => Or.inr (Nat.le_trans h1 h2)
  have hS : va_S (fA 23 ad s.heap.size) s.heap s.heap [] := va_S.rf
  have hA : ∀ q, s.heap.size ≤ q → (fA 23 ad s.heap.size) q := fun q h => Or.inr h
  unfold S_X5_giveBackKept at hs
  have hl := lv_entry ([.ref (ad 0), .int a0]) (n := 7) (Nat.le_of_ble_eq_true rfl)
  rw [lg_entry_eq]
  generalize (lg_sl ([.ref (ad 0), .int a0]) ++ List.replicate (7 - (lg_sl ([.ref (ad 0), .int a0])).length) Slot.unset).toArray = ls at hl ⊢
  have hl : lv_has ls 7 [(0, .ref (ad 0)), (1, .int a0)] := hl
  refine W_gen (fun Q9 hQ9 => ?_)
  refine lv_aload_n hx hb dX5_giveBackKept_0 rfl (lv_at hl 0 rfl) ?_
  refine va_get (D := (dC, dI)) (ci := 7) (v := .ref (ad 4)) (C := RX5) (T := TX5) (N := 8) hx hb hts iW_X5 hown hK hP 0 rfl rfl 1 (by decide) (hts _ mF_RX5_19) (fun _ h9 => h9) rfl dX5_giveBackKept_1 ?_
  refine va_get (D := (dC, dI)) (ci := 5) (v := .int Pm) (C := RX3) (T := TX3) (N := 5) hx hb hts iW_X3 hown hK hP 4 rfl rfl 4 (by decide) (hts _ mF_RX5_143) (fun _ h9 => h9) rfl dX5_giveBackKept_4 ?_
  refine lv_iconst (v := 1) hx hb dX5_giveBackKept_7 (by decide) ?_
  refine lv_isub hx hb dX5_giveBackKept_8 ?_
  refine lv_istore_n (lv' := [(2, .int (Pm - (1 : Int32))), (0, .ref (ad 0)), (1, .int a0)]) hx hb dX5_giveBackKept_9 rfl hl (by decide) rfl (fun ls hl => ?_)
  obtain ⟨h2, hs⟩ := hs
  obtain ⟨u1, hu1⟩ : ∃ z, z = L_X5_giveBackKept_10 201 (Pm - (1 : Int32)) Bc Bl Ek Er Ea Em Eb a0 Pk Pr Pl Pc := ⟨_, rfl⟩
  have hs := hs u1 hu1
  have hex3 : ∀ (H : Heap) (locs : List Loc) (ls : Array Slot), va_P (dC, dI) vwCl (wC ad cI cJ u1.2.1 u1.2.2.1 Pk Pr Pl Pc Pm Gf Gt Gx Gd Gm u1.2.2.2.1 u1.2.2.2.2.1 u1.2.2.2.2.2.1 Ex u1.2.2.2.2.2.2.1 u1.2.2.2.2.2.2.2 Et Ss Sm Wg Wr Md) H → va_S (fA 23 ad s.heap.size) s.heap H locs → lv_has ls 7 [(2, .int u1.1), (0, .ref (ad 0)), (1, .int a0)] → W p l e (headSpec (mW yX5_giveBackKept cX5_giveBackKept 7 none) { frames := 2, cells := 0, slots := 0, locals := 84 }).room s m ([.ref (ad 0), .int a0] : List Value).toArray below meth c H locs 0 0 Q9 (F0 m 166 ls []) := by
    intro H locs ls hP hS hl
    refine lv_aload_n hx hb dX5_giveBackKept_166 rfl (lv_at hl 1 rfl) ?_
    refine va_get (D := (dC, dI)) (ci := 7) (v := .ref (ad 4)) (C := RX5) (T := TX5) (N := 8) hx hb hts iW_X5 hown hK hP 0 rfl rfl 1 (by decide) (hts _ mF_RX5_19) (fun _ h9 => h9) rfl dX5_giveBackKept_167 ?_
    refine lv_iload_n hx hb dX5_giveBackKept_170 rfl (lv_at hl 2 rfl) ?_
    refine va_put (D := (dC, dI)) (ci := 5) (v := .int a0) (ty := .int) (C := RX3) (T := TX3) (N := 5) hx hb hts iW_X3 tyX3 tyX3_ok nmX3 hown hK hP (fA_D hi rfl) hS 4 rfl rfl 4 (by decide) (hts _ mF_RX5_143) (fun _ h9 => h9) rfl (by decide +kernel) rfl rfl (Nat.le_of_ble_eq_true rfl) dX5_giveBackKept_171 (fun H locs hP _ hS => ?_)
    have hP : va_P (dC, dI) vwCl (wC ad cI cJ u1.2.1 u1.2.2.1 Pk Pr Pl Pc a0 Gf Gt Gx Gd Gm u1.2.2.2.1 u1.2.2.2.2.1 u1.2.2.2.2.2.1 Ex u1.2.2.2.2.2.2.1 u1.2.2.2.2.2.2.2 Et Ss Sm Wg Wr Md) H := hP
    rw [hQ9]
    have hf : f_X5_giveBackKept a0 Bc Bl Pk Pr Pl Pc Pm Ek Er Ea Em Eb = (u1.2.1, u1.2.2.1, a0, u1.2.2.2.1, u1.2.2.2.2.1, u1.2.2.2.2.2.1, u1.2.2.2.2.2.2.1, u1.2.2.2.2.2.2.2) := by simp only [f_X5_giveBackKept, ← hu1]
    exact W.vret hx hb hr (fun t ht hW => ⟨⟨(), rfl, True.intro, by rw [hf]; show va_P (dC, dI) vwCl _ t.heap; rw [ht]; exact hP⟩, hS.F ht⟩) hS.2.2 dX5_giveBackKept_174
  have hlp4 : ∀ (n : Nat) (x2v : Int32) (Bcv : Nat → Int64) (Blv : Nat → Int32) (Ekv : Nat → Int32) (Erv : Nat → Int32) (Eav : Nat → Int32) (Emv : Int32) (Ebv : Int32) (H : Heap) (locs : List Loc) (ls : Array Slot), SL_X5_giveBackKept_10 n x2v Bcv Blv Ekv Erv Eav Emv Ebv a0 Pk Pr Pl Pc → u1 = L_X5_giveBackKept_10 n x2v Bcv Blv Ekv Erv Eav Emv Ebv a0 Pk Pr Pl Pc → va_P (dC, dI) vwCl (wC ad cI cJ Bcv Blv Pk Pr Pl Pc Pm Gf Gt Gx Gd Gm Ekv Erv Eav Ex Emv Ebv Et Ss Sm Wg Wr Md) H → va_S (fA 23 ad s.heap.size) s.heap H locs → lv_has ls 7 [(2, .int x2v), (0, .ref (ad 0)), (1, .int a0)] → W p l e (headSpec (mW yX5_giveBackKept cX5_giveBackKept 7 none) { frames := 2, cells := 0, slots := 0, locals := 84 }).room s m ([.ref (ad 0), .int a0] : List Value).toArray below meth c H locs 0 0 Q9 (F0 m 10 ls []) := by
    intro n
    induction n with
    | zero => intro x2v Bcv Blv Ekv Erv Eav Emv Ebv H locs ls hs; rw [SL_X5_giveBackKept_10] at hs; exact hs.elim
    | succ n ih =>
      intro x2v Bcv Blv Ekv Erv Eav Emv Ebv H locs ls hs hq5 hP hS hl
      rw [SL_X5_giveBackKept_10] at hs
      refine lv_iload_n hx hb dX5_giveBackKept_10 rfl (lv_at hl 0 rfl) ?_
      refine lv_iload_n hx hb dX5_giveBackKept_11 rfl (lv_at hl 2 rfl) ?_
      refine lv_icmp_lt (tgt := 166) hx hb dX5_giveBackKept_12 (by decide) (fun c6 => ?_) (fun c6 => ?_)
      · have hs := hs.1 c6
        have he7 : u1 = (x2v, Bcv, Blv, Ekv, Erv, Eav, Emv, Ebv) := by rw [hq5, L_X5_giveBackKept_10]; simp only [if_pos c6, ↓reduceIte]
        exact hex3 _ _ _ (by first | exact hP | (rw [he7]; exact hP)) hS (by first | exact lv_sub hl [0, 1, 2] rfl | (rw [he7]; exact lv_sub hl [0, 1, 2] rfl))
      · have hs := hs.2 c6
        refine lv_iload_n hx hb dX5_giveBackKept_15 rfl (lv_at hl 0 rfl) ?_
        refine lv_if_lt (tgt := 166) hx hb dX5_giveBackKept_16 (by decide) (fun c8 => ?_) (fun c8 => ?_)
        · have hs := hs.1 c8
          have he9 : u1 = (x2v, Bcv, Blv, Ekv, Erv, Eav, Emv, Ebv) := by rw [hq5, L_X5_giveBackKept_10]; simp only [if_neg c6, if_pos c8, ↓reduceIte]
          exact hex3 _ _ _ (by first | exact hP | (rw [he9]; exact hP)) hS (by first | exact lv_sub hl [0, 1, 2] rfl | (rw [he9]; exact lv_sub hl [0, 1, 2] rfl))
        · have hs := hs.2 c8
          refine lv_iload_n hx hb dX5_giveBackKept_19 rfl (lv_at hl 0 rfl) ?_
          refine lv_sipush (v := 200) hx hb dX5_giveBackKept_20 (by decide) ?_
          refine lv_icmp_ge (tgt := 166) hx hb dX5_giveBackKept_23 (by decide) (fun c10 => ?_) (fun c10 => ?_)
          · have hs := hs.1 c10
            have he11 : u1 = (x2v, Bcv, Blv, Ekv, Erv, Eav, Emv, Ebv) := by rw [hq5, L_X5_giveBackKept_10]; simp only [if_neg c6, if_neg c8, if_pos c10, ↓reduceIte]
            exact hex3 _ _ _ (by first | exact hP | (rw [he11]; exact hP)) hS (by first | exact lv_sub hl [0, 1, 2] rfl | (rw [he11]; exact lv_sub hl [0, 1, 2] rfl))
          · have hs := hs.2 c10
            refine lv_aload_n hx hb dX5_giveBackKept_26 rfl (lv_at hl 1 rfl) ?_
            refine va_get (D := (dC, dI)) (ci := 7) (v := .ref (ad 4)) (C := RX5) (T := TX5) (N := 8) hx hb hts iW_X5 hown hK hP 0 rfl rfl 1 (by decide) (hts _ mF_RX5_19) (fun _ h9 => h9) rfl dX5_giveBackKept_27 ?_
            refine va_get (D := (dC, dI)) (ci := 5) (v := .ref (ad 5)) (C := RX3) (T := TX3) (N := 5) hx hb hts iW_X3 hown hK hP 4 rfl rfl 0 (by decide) (hts _ mF_RX5_292) (fun _ h9 => h9) rfl dX5_giveBackKept_30 ?_
            refine lv_iload_n hx hb dX5_giveBackKept_33 rfl (lv_at hl 0 rfl) ?_
            obtain ⟨h12, hs⟩ := hs
            refine va_iald hx hb hK hP 5 0 rfl rfl h12 dX5_giveBackKept_34 ?_
            refine lv_istore_n (lv' := [(3, .int (Pk x2v.toNatClampNeg)), (2, .int x2v), (0, .ref (ad 0)), (1, .int a0)]) hx hb dX5_giveBackKept_35 rfl hl (by decide) rfl (fun ls hl => ?_)
            refine lv_aload_n hx hb dX5_giveBackKept_36 rfl (lv_at hl 2 rfl) ?_
            refine va_get (D := (dC, dI)) (ci := 7) (v := .ref (ad 4)) (C := RX5) (T := TX5) (N := 8) hx hb hts iW_X5 hown hK hP 0 rfl rfl 1 (by decide) (hts _ mF_RX5_19) (fun _ h9 => h9) rfl dX5_giveBackKept_37 ?_
            refine va_get (D := (dC, dI)) (ci := 5) (v := .ref (ad 6)) (C := RX3) (T := TX3) (N := 5) hx hb hts iW_X3 hown hK hP 4 rfl rfl 1 (by decide) (hts _ mF_RX5_293) (fun _ h9 => h9) rfl dX5_giveBackKept_40 ?_
            refine lv_iload_n hx hb dX5_giveBackKept_43 rfl (lv_at hl 1 rfl) ?_
            obtain ⟨h13, hs⟩ := hs
            refine va_iald hx hb hK hP 6 0 rfl rfl h13 dX5_giveBackKept_44 ?_
            refine lv_istore (lv' := [(4, .int (Pr x2v.toNatClampNeg)), (3, .int (Pk x2v.toNatClampNeg)), (2, .int x2v), (0, .ref (ad 0)), (1, .int a0)]) hx hb dX5_giveBackKept_45 hl (by decide) rfl (fun ls hl => ?_)
            refine lv_iload_n hx hb dX5_giveBackKept_47 rfl (lv_at hl 1 rfl) ?_
            refine lv_i2l hx hb dX5_giveBackKept_48 rfl ?_
            refine lv_lconst (v := 0) hx hb dX5_giveBackKept_49 (by decide) ?_
            refine lv_ldc2 hx hb hown (hts _ mK_RX5_106) dX5_giveBackKept_50 ?_
            refine q_X5_within hx hb hml hown hts mM_RX5_71 ⟨Nat.le_of_ble_eq_true rfl, Nat.le_of_ble_eq_true rfl⟩ ⟨Nat.le_of_ble_eq_true rfl, Nat.le_of_ble_eq_true rfl⟩ hl.1 (Nat.le_of_ble_eq_true rfl) hS dX5_giveBackKept_53 hA ((Pk x2v.toNatClampNeg).toInt64) (0 : Int64) (4 : Int64) (fun locs hS => ?_)
            refine lv_if_eq (tgt := 160) hx hb dX5_giveBackKept_56 (by decide) (fun c14 => ?_) (fun c14 => ?_)
            · have hs := hs.1 c14
              refine lv_iinc (v := (x2v + (-1))) (lv' := [(2, .int (x2v + (-1))), (4, .int (Pr x2v.toNatClampNeg)), (3, .int (Pk x2v.toNatClampNeg)), (0, .ref (ad 0)), (1, .int a0)]) hx hb dX5_giveBackKept_160 hl (k := 2) rfl rfl (by decide) rfl (fun ls hl => ?_)
              refine lv_goto (tgt := 10) hx hb dX5_giveBackKept_163 (by decide) ?_
              exact ih (x2v + (-1)) Bcv Blv Ekv Erv Eav Emv Ebv _ _ _ hs (by rw [hq5, L_X5_giveBackKept_10]; simp only [if_neg c6, if_neg c8, if_neg c10, if_pos c14, ↓reduceIte]) hP hS (lv_sub hl [0, 3, 4] rfl)
            · have hs := hs.2 c14
              refine lv_iload hx hb dX5_giveBackKept_59 (lv_at hl 0 rfl) ?_
              refine lv_i2l hx hb dX5_giveBackKept_61 rfl ?_
              refine lv_lconst (v := 0) hx hb dX5_giveBackKept_62 (by decide) ?_
              refine lv_ldc2 hx hb hown (hts _ mK_RX5_260) dX5_giveBackKept_63 ?_
              refine q_X5_within hx hb hml hown hts mM_RX5_71 ⟨Nat.le_of_ble_eq_true rfl, Nat.le_of_ble_eq_true rfl⟩ ⟨Nat.le_of_ble_eq_true rfl, Nat.le_of_ble_eq_true rfl⟩ hl.1 (Nat.le_of_ble_eq_true rfl) hS dX5_giveBackKept_66 hA ((Pr x2v.toNatClampNeg).toInt64) (0 : Int64) (31 : Int64) (fun locs hS => ?_)
              refine lv_if_ne (tgt := 75) hx hb dX5_giveBackKept_69 (by decide) (fun c15 => ?_) (fun c15 => ?_)
              · have hs := hs.2 c15
                refine lv_iload_n hx hb dX5_giveBackKept_75 rfl (lv_at hl 1 rfl) ?_
                refine lv_iload hx hb dX5_giveBackKept_76 (lv_at hl 0 rfl) ?_
                refine q_X0_place hx hb hml hown hts mM_RX5_249 ⟨Nat.le_of_ble_eq_true rfl, Nat.le_of_ble_eq_true rfl⟩ ⟨Nat.le_of_ble_eq_true rfl, Nat.le_of_ble_eq_true rfl⟩ hl.1 (Nat.le_of_ble_eq_true rfl) hS dX5_giveBackKept_78 hA (Pk x2v.toNatClampNeg) (Pr x2v.toNatClampNeg) (fun locs hS => ?_)
                refine lv_istore (lv' := [(5, .int (f_X0_place (Pk x2v.toNatClampNeg) (Pr x2v.toNatClampNeg))), (4, .int (Pr x2v.toNatClampNeg)), (3, .int (Pk x2v.toNatClampNeg)), (2, .int x2v), (0, .ref (ad 0)), (1, .int a0)]) hx hb dX5_giveBackKept_81 hl (by decide) rfl (fun ls hl => ?_)
                refine lv_aload_n hx hb dX5_giveBackKept_83 rfl (lv_at hl 4 rfl) ?_
                refine va_get (D := (dC, dI)) (ci := 7) (v := .ref (ad 1)) (C := RX5) (T := TX5) (N := 8) hx hb hts iW_X5 hown hK hP 0 rfl rfl 0 (by decide) (hts _ mF_RX5_10) (fun _ h9 => h9) rfl dX5_giveBackKept_84 ?_
                refine va_get (D := (dC, dI)) (ci := 2) (v := .ref (ad 3)) (C := RX0) (T := TX0) (N := 2) hx hb hts iW_X0 hown hK hP 1 rfl rfl 1 (by decide) (hts _ mF_RX5_246) (fun _ h9 => h9) rfl dX5_giveBackKept_87 ?_
                refine lv_iload hx hb dX5_giveBackKept_90 (lv_at hl 0 rfl) ?_
                obtain ⟨h16, hs⟩ := hs
                refine va_iald hx hb hK hP 3 0 rfl rfl h16 dX5_giveBackKept_92 ?_
                refine lv_if_eq (tgt := 100) hx hb dX5_giveBackKept_93 (by decide) (fun c17 => ?_) (fun c17 => ?_)
                · have hs := hs.1 c17
                  refine lv_iconst (v := 0) hx hb dX5_giveBackKept_100 (by decide) ?_
                  refine lv_istore (lv' := [(6, .int (0 : Int32)), (5, .int (f_X0_place (Pk x2v.toNatClampNeg) (Pr x2v.toNatClampNeg))), (4, .int (Pr x2v.toNatClampNeg)), (3, .int (Pk x2v.toNatClampNeg)), (2, .int x2v), (0, .ref (ad 0)), (1, .int a0)]) hx hb dX5_giveBackKept_101 hl (by decide) rfl (fun ls hl => ?_)
                  refine lv_iload hx hb dX5_giveBackKept_103 (lv_at hl 0 rfl) ?_
                  refine lv_if_eq (tgt := 148) hx hb dX5_giveBackKept_105 (by decide) (fun c18 => ?_) (fun c18 => ?_)
                  · refine lv_aload_n hx hb dX5_giveBackKept_148 rfl (lv_at hl 5 rfl) ?_
                    refine va_get (D := (dC, dI)) (ci := 7) (v := .ref (ad 13)) (C := RX5) (T := TX5) (N := 8) hx hb hts iW_X5 hown hK hP 0 rfl rfl 3 (by decide) (hts _ mF_RX5_33) (fun _ h9 => h9) rfl dX5_giveBackKept_149 ?_
                    refine lv_iload_n hx hb dX5_giveBackKept_152 rfl (lv_at hl 3 rfl) ?_
                    refine lv_iload hx hb dX5_giveBackKept_153 (lv_at hl 2 rfl) ?_
                    refine lv_iload hx hb dX5_giveBackKept_155 (lv_at hl 0 rfl) ?_
                    obtain ⟨h19, hs⟩ := hs
                    obtain ⟨u20, hu20⟩ : ∃ z, z = f_X1_append (Pk x2v.toNatClampNeg) (Pr x2v.toNatClampNeg) (0 : Int32) Ekv Erv Eav Emv Ebv := ⟨_, rfl⟩
                    have hs := hs u20 hu20
                    refine q_X1_append hx hb hml hown hts mM_RX5_296 ⟨Nat.le_of_ble_eq_true rfl, Nat.le_of_ble_eq_true rfl⟩ ⟨Nat.le_of_ble_eq_true rfl, Nat.le_of_ble_eq_true rfl⟩ hl.1 (Nat.le_of_ble_eq_true rfl) hS dX5_giveBackKept_157 (fun _ h9 => fA_mono hS.1 h9) hi hK hP (Pk x2v.toNatClampNeg) (Pr x2v.toNatClampNeg) (0 : Int32) h19 u20 hu20 (fun H locs hP hS => ?_)
                    refine lv_iinc (v := (x2v + (-1))) (lv' := [(2, .int (x2v + (-1))), (6, .int (0 : Int32)), (5, .int (f_X0_place (Pk x2v.toNatClampNeg) (Pr x2v.toNatClampNeg))), (4, .int (Pr x2v.toNatClampNeg)), (3, .int (Pk x2v.toNatClampNeg)), (0, .ref (ad 0)), (1, .int a0)]) hx hb dX5_giveBackKept_160 hl (k := 4) rfl rfl (by decide) rfl (fun ls hl => ?_)
                    refine lv_goto (tgt := 10) hx hb dX5_giveBackKept_163 (by decide) ?_
                    exact ih (x2v + (-1)) Bcv Blv u20.1 u20.2.1 u20.2.2.1 u20.2.2.2.1 u20.2.2.2.2 _ _ _ hs (by rw [hq5, L_X5_giveBackKept_10]; simp only [if_neg c6, if_neg c8, if_neg c10, if_neg c14, if_neg c15, if_pos c17, ← hu20, ↓reduceIte]) hP hS (lv_sub hl [0, 5, 6] rfl)
                  · exact absurd (by decide) c18
                · have hs := hs.2 c17
                  refine lv_iconst (v := 1) hx hb dX5_giveBackKept_96 (by decide) ?_
                  refine lv_goto (tgt := 101) hx hb dX5_giveBackKept_97 (by decide) ?_
                  refine lv_istore (lv' := [(6, .int (1 : Int32)), (5, .int (f_X0_place (Pk x2v.toNatClampNeg) (Pr x2v.toNatClampNeg))), (4, .int (Pr x2v.toNatClampNeg)), (3, .int (Pk x2v.toNatClampNeg)), (2, .int x2v), (0, .ref (ad 0)), (1, .int a0)]) hx hb dX5_giveBackKept_101 hl (by decide) rfl (fun ls hl => ?_)
                  refine lv_iload hx hb dX5_giveBackKept_103 (lv_at hl 0 rfl) ?_
                  refine lv_if_eq (tgt := 148) hx hb dX5_giveBackKept_105 (by decide) (fun c21 => ?_) (fun c21 => ?_)
                  · exact absurd c21 (by decide)
                  · refine lv_aload_n hx hb dX5_giveBackKept_108 rfl (lv_at hl 5 rfl) ?_
                    refine va_get (D := (dC, dI)) (ci := 7) (v := .ref (ad 1)) (C := RX5) (T := TX5) (N := 8) hx hb hts iW_X5 hown hK hP 0 rfl rfl 0 (by decide) (hts _ mF_RX5_10) (fun _ h9 => h9) rfl dX5_giveBackKept_109 ?_
                    refine lv_aload_n hx hb dX5_giveBackKept_112 rfl (lv_at hl 5 rfl) ?_
                    refine va_get (D := (dC, dI)) (ci := 7) (v := .ref (ad 4)) (C := RX5) (T := TX5) (N := 8) hx hb hts iW_X5 hown hK hP 0 rfl rfl 1 (by decide) (hts _ mF_RX5_19) (fun _ h9 => h9) rfl dX5_giveBackKept_113 ?_
                    refine va_get (D := (dC, dI)) (ci := 5) (v := .ref (ad 8)) (C := RX3) (T := TX3) (N := 5) hx hb hts iW_X3 hown hK hP 4 rfl rfl 3 (by decide) (hts _ mF_RX5_294) (fun _ h9 => h9) rfl dX5_giveBackKept_116 ?_
                    refine lv_iload_n hx hb dX5_giveBackKept_119 rfl (lv_at hl 4 rfl) ?_
                    refine lv_bipush (v := 21) hx hb dX5_giveBackKept_120 (by decide) ?_
                    refine lv_imul hx hb dX5_giveBackKept_122 ?_
                    refine lv_iload_n hx hb dX5_giveBackKept_123 rfl (lv_at hl 3 rfl) ?_
                    refine lv_iload hx hb dX5_giveBackKept_124 (lv_at hl 2 rfl) ?_
                    obtain ⟨h22, hs⟩ := hs
                    obtain ⟨u23, hu23⟩ : ∃ z, z = f_X0_copyFromP (x2v * (21 : Int32)) (Pk x2v.toNatClampNeg) (Pr x2v.toNatClampNeg) Bcv Pc := ⟨_, rfl⟩
                    have hs := hs u23 hu23
                    refine q_X0_copyFromP hx hb hml hown hts mM_RX5_284 ⟨Nat.le_of_ble_eq_true rfl, Nat.le_of_ble_eq_true rfl⟩ ⟨Nat.le_of_ble_eq_true rfl, Nat.le_of_ble_eq_true rfl⟩ hl.1 (Nat.le_of_ble_eq_true rfl) hS dX5_giveBackKept_126 (fun _ h9 => fA_mono hS.1 h9) hi hK hP hC (x2v * (21 : Int32)) (Pk x2v.toNatClampNeg) (Pr x2v.toNatClampNeg) h22 u23 hu23 (fun H locs hP hS => ?_)
                    refine lv_aload_n hx hb dX5_giveBackKept_129 rfl (lv_at hl 5 rfl) ?_
                    refine va_get (D := (dC, dI)) (ci := 7) (v := .ref (ad 1)) (C := RX5) (T := TX5) (N := 8) hx hb hts iW_X5 hown hK hP 0 rfl rfl 0 (by decide) (hts _ mF_RX5_10) (fun _ h9 => h9) rfl dX5_giveBackKept_130 ?_
                    refine va_get (D := (dC, dI)) (ci := 2) (v := .ref (ad 3)) (C := RX0) (T := TX0) (N := 2) hx hb hts iW_X0 hown hK hP 1 rfl rfl 1 (by decide) (hts _ mF_RX5_246) (fun _ h9 => h9) rfl dX5_giveBackKept_133 ?_
                    refine lv_iload hx hb dX5_giveBackKept_136 (lv_at hl 1 rfl) ?_
                    refine lv_aload_n hx hb dX5_giveBackKept_138 rfl (lv_at hl 5 rfl) ?_
                    refine va_get (D := (dC, dI)) (ci := 7) (v := .ref (ad 4)) (C := RX5) (T := TX5) (N := 8) hx hb hts iW_X5 hown hK hP 0 rfl rfl 1 (by decide) (hts _ mF_RX5_19) (fun _ h9 => h9) rfl dX5_giveBackKept_139 ?_
                    refine va_get (D := (dC, dI)) (ci := 5) (v := .ref (ad 7)) (C := RX3) (T := TX3) (N := 5) hx hb hts iW_X3 hown hK hP 4 rfl rfl 2 (by decide) (hts _ mF_RX5_295) (fun _ h9 => h9) rfl dX5_giveBackKept_142 ?_
                    refine lv_iload_n hx hb dX5_giveBackKept_145 rfl (lv_at hl 4 rfl) ?_
                    obtain ⟨h24, hs⟩ := hs
                    refine va_iald hx hb hK hP 7 0 rfl rfl h24 dX5_giveBackKept_146 ?_
                    obtain ⟨h25, hs⟩ := hs
                    refine va_iast hx hb hK hP (fA_D hi rfl) hS 3 0 rfl rfl h25 dX5_giveBackKept_147 (fun H locs hP _ hS => ?_)
                    have hP : va_P (dC, dI) vwCl (wC ad cI cJ u23 (upd Blv (f_X0_place (Pk x2v.toNatClampNeg) (Pr x2v.toNatClampNeg)).toNatClampNeg (Pl x2v.toNatClampNeg)) Pk Pr Pl Pc Pm Gf Gt Gx Gd Gm Ekv Erv Eav Ex Emv Ebv Et Ss Sm Wg Wr Md) H := hP
                    refine lv_aload_n hx hb dX5_giveBackKept_148 rfl (lv_at hl 5 rfl) ?_
                    refine va_get (D := (dC, dI)) (ci := 7) (v := .ref (ad 13)) (C := RX5) (T := TX5) (N := 8) hx hb hts iW_X5 hown hK hP 0 rfl rfl 3 (by decide) (hts _ mF_RX5_33) (fun _ h9 => h9) rfl dX5_giveBackKept_149 ?_
                    refine lv_iload_n hx hb dX5_giveBackKept_152 rfl (lv_at hl 3 rfl) ?_
                    refine lv_iload hx hb dX5_giveBackKept_153 (lv_at hl 2 rfl) ?_
                    refine lv_iload hx hb dX5_giveBackKept_155 (lv_at hl 0 rfl) ?_
                    obtain ⟨h26, hs⟩ := hs
                    obtain ⟨u27, hu27⟩ : ∃ z, z = f_X1_append (Pk x2v.toNatClampNeg) (Pr x2v.toNatClampNeg) (1 : Int32) Ekv Erv Eav Emv Ebv := ⟨_, rfl⟩
                    have hs := hs u27 hu27
                    refine q_X1_append hx hb hml hown hts mM_RX5_296 ⟨Nat.le_of_ble_eq_true rfl, Nat.le_of_ble_eq_true rfl⟩ ⟨Nat.le_of_ble_eq_true rfl, Nat.le_of_ble_eq_true rfl⟩ hl.1 (Nat.le_of_ble_eq_true rfl) hS dX5_giveBackKept_157 (fun _ h9 => fA_mono hS.1 h9) hi hK hP (Pk x2v.toNatClampNeg) (Pr x2v.toNatClampNeg) (1 : Int32) h26 u27 hu27 (fun H locs hP hS => ?_)
                    refine lv_iinc (v := (x2v + (-1))) (lv' := [(2, .int (x2v + (-1))), (6, .int (1 : Int32)), (5, .int (f_X0_place (Pk x2v.toNatClampNeg) (Pr x2v.toNatClampNeg))), (4, .int (Pr x2v.toNatClampNeg)), (3, .int (Pk x2v.toNatClampNeg)), (0, .ref (ad 0)), (1, .int a0)]) hx hb dX5_giveBackKept_160 hl (k := 4) rfl rfl (by decide) rfl (fun ls hl => ?_)
                    refine lv_goto (tgt := 10) hx hb dX5_giveBackKept_163 (by decide) ?_
                    exact ih (x2v + (-1)) u23 (upd Blv (f_X0_place (Pk x2v.toNatClampNeg) (Pr x2v.toNatClampNeg)).toNatClampNeg (Pl x2v.toNatClampNeg)) u27.1 u27.2.1 u27.2.2.1 u27.2.2.2.1 u27.2.2.2.2 _ _ _ hs (by rw [hq5, L_X5_giveBackKept_10]; simp only [if_neg c6, if_neg c8, if_neg c10, if_neg c14, if_neg c15, if_neg c17, ← hu23, ← hu27, ↓reduceIte]) hP hS (lv_sub hl [0, 5, 6] rfl)
              · have hs := hs.1 c15
                refine lv_goto (tgt := 160) hx hb dX5_giveBackKept_72 (by decide) ?_
                refine lv_iinc (v := (x2v + (-1))) (lv' := [(2, .int (x2v + (-1))), (4, .int (Pr x2v.toNatClampNeg)), (3, .int (Pk x2v.toNatClampNeg)), (0, .ref (ad 0)), (1, .int a0)]) hx hb dX5_giveBackKept_160 hl (k := 2) rfl rfl (by decide) rfl (fun ls hl => ?_)
                refine lv_goto (tgt := 10) hx hb dX5_giveBackKept_163 (by decide) ?_
                exact ih (x2v + (-1)) Bcv Blv Ekv Erv Eav Emv Ebv _ _ _ hs (by rw [hq5, L_X5_giveBackKept_10]; simp only [if_neg c6, if_neg c8, if_neg c10, if_neg c14, if_pos c15, ↓reduceIte]) hP hS (lv_sub hl [0, 3, 4] rfl)
  exact hlp4 201 (Pm - (1 : Int32)) Bc Bl Ek Er Ea Em Eb _ _ _ h2 hu1 hP hS (lv_sub hl [0, 1, 2] rfl)
theorem q_X5_giveBackKept {p : Program} {l : Launch} {e : Env} {R : Room} {s : State} {m : MethodId} {args : Array Value} {below : List Frame} {meth : Method} {c : Code} {H : Heap} {locs : List Loc} {cells slots : Nat} {Q : State → Prop} {pc : Nat} {ls : Array Slot} {rest : List Value} {cc : ByteArray} {nL idx : Nat} {own : String} {A0 : Nat → Prop} {dC : Nat → ClassId} {dI : Nat → Nat → Nat} {cI cJ : ClassId} {ad : Nat → Nat} {Bc : Nat → Int64} {Bl : Nat → Int32} {Pk : Nat → Int32} {Pr : Nat → Int32} {Pl : Nat → Int32} {Pc : Nat → Int64} {Pm : Int32} {Gf : Nat → Int32} {Gt : Nat → Int32} {Gx : Nat → Int32} {Gd : Int32} {Gm : Int32} {Ek : Nat → Int32} {Er : Nat → Int32} {Ea : Nat → Int32} {Ex : Nat → Int32} {Em : Int32} {Eb : Int32} {Et : Int32} {Ss : Nat → Int32} {Sm : Int32} {Wg : Nat → Int64} {Wr : Nat → Int64} {Md : Nat → Int64} (hx : p.tables.exec = Jvm.exec) (hb : c.code = cc) (hml : c.maxLocals = nL) (hown : s.vm.findClass own = some m.cls) (hts : ∀ w ∈ bigW, w.before args s = true) (hlk : Cond.methodLink own idx yX5_giveBackKept ∈ bigW) (hR : 3 ≤ R.frames ∧ 110 ≤ R.locals) (hf : cells + 0 ≤ R.cells ∧ slots + 0 ≤ R.slots) (hz : ls.size = nL) (hw : (rest.map fun v => v.category).sum ≤ 8) (hS : va_S A0 s.heap H locs) (hd : decode cc pc = .ok (.invokevirtual idx, 3)) (hA : ∀ q, fA 23 ad H.size q → A0 q) (hi : fI 23 ad) (hK : va_K (dC, dI) vwCl [(cI, .int), (cJ, .long)] s) (hP : va_P (dC, dI) vwCl (wC ad cI cJ Bc Bl Pk Pr Pl Pc Pm Gf Gt Gx Gd Gm Ek Er Ea Ex Em Eb Et Ss Sm Wg Wr Md) H) (hC : cxt A0 s s.heap) (a0 : Int32) (hs : S_X5_giveBackKept a0 Bc Bl Pk Pr Pl Pc Pm Ek Er Ea Em Eb)  (u : (Nat → Int64) × (Nat → Int32) × Int32 × (Nat → Int32) × (Nat → Int32) × (Nat → Int32) × Int32 × Int32) (hu : u = f_X5_giveBackKept a0 Bc Bl Pk Pr Pl Pc Pm Ek Er Ea Em Eb) (k : ∀ (H1 : Heap) (locs1 : List Loc), va_P (dC, dI) vwCl (wC ad cI cJ u.1 u.2.1 Pk Pr Pl Pc u.2.2.1 Gf Gt Gx Gd Gm u.2.2.2.1 u.2.2.2.2.1 u.2.2.2.2.2.1 Ex u.2.2.2.2.2.2.1 u.2.2.2.2.2.2.2 Et Ss Sm Wg Wr Md) H1 → va_S A0 s.heap H1 locs1 → W p l e R s m args below meth c H1 locs1 (cells + 0) (slots + 0) Q (F0 m (pc + 3) ls (rest))) : W p l e R s m args below meth c H locs cells slots Q (F0 m pc ls (.int a0 :: .ref (ad 0) :: rest)) := by
  subst hu
  exact va_callv (va_runV (As := [.int a0]) (rest := rest) ⟨hx, hb, hml, hown, hts⟩ (c_X5_giveBackKept l dC dI cI cJ ad hi H.size Bc Bl Pk Pr Pl Pc Pm Gf Gt Gx Gd Gm Ek Er Ea Ex Em Eb Et Ss Sm Wg Wr Md a0 hs) (kV 1 hts hlk mI_X5_giveBackKept mN_RX5 mY_X5_giveBackKept mV_X5_giveBackKept rfl rfl (by decide +kernel) hR) ⟨fun a U g mk q => ⟨q.1, q.2.1, q.2.2.1, va_K.moved (u := U) (U := U.calling g mk a) (Vm.Alike.refl U.vm) q.2.2.2.1, q.2.2.2.2.call⟩, va_recv hK hP (ci := 7) (q0 := 0) rfl rfl, fun U hU hW => ⟨rfl, by rw [hU], by rw [hU]; exact hP, va_K.moved hW.alike hK, hC.here hS hU hW hA⟩⟩ rfl rfl hz rfl (lv_room hw) hd hf) hS (fun q _ h => hA q h) (fun q h => hA q h) (fun u t H1 locs1 ht hvm hw9 hB hz1 hk1 hS1 => by
    skip
    exact k H1 locs1 (by rw [← ht]; exact hB) hS1)

def f_X5_end (Bc : Nat → Int64) (Bl : Nat → Int32) (Pk : Nat → Int32) (Pr : Nat → Int32) (Pl : Nat → Int32) (Pc : Nat → Int64) (Pm : Int32) (Gf : Nat → Int32) (Gt : Nat → Int32) (Gx : Nat → Int32) (Gd : Int32) (Gm : Int32) (Ek : Nat → Int32) (Er : Nat → Int32) (Ea : Nat → Int32) (Ex : Nat → Int32) (Em : Int32) (Eb : Int32) (Et : Int32) : Nat × Int32 × (Nat → Int64) × (Nat → Int32) × Int32 × Int32 × Int32 × (Nat → Int32) × (Nat → Int32) × (Nat → Int32) × (Nat → Int32) × Int32 × Int32 × Int32 := (if 0 < Gd then (let u2 := f_X1_clear Em Eb Et; (let u4 := f_X2_firstKept Gf Gd; (let u6 := f_X5_giveBackKept u4 Bc Bl Pk Pr Pl Pc Pm Ek Er Ea u2.1 u2.2.1; (let u8 := f_X1_copyTokens Gt Gx Gd Gm Ex u2.2.2; (let u10 := f_X2_close Gt Gd Gm; (0, u6.2.2.2.2.2.2.2, u6.1, u6.2.1, u6.2.2.1, u10.1, u10.2, u6.2.2.2.1, u6.2.2.2.2.1, u6.2.2.2.2.2.1, u8.1, u6.2.2.2.2.2.2.1, u6.2.2.2.2.2.2.2, u8.2)))))) else (4, 0, Bc, Bl, Pm, Gd, Gm, Ek, Er, Ea, Ex, Em, Eb, Et))
def S_X5_end (Bc : Nat → Int64) (Bl : Nat → Int32) (Pk : Nat → Int32) (Pr : Nat → Int32) (Pl : Nat → Int32) (Pc : Nat → Int64) (Pm : Int32) (Gf : Nat → Int32) (Gt : Nat → Int32) (Gx : Nat → Int32) (Gd : Int32) (Gm : Int32) (Ek : Nat → Int32) (Er : Nat → Int32) (Ea : Nat → Int32) (Ex : Nat → Int32) (Em : Int32) (Eb : Int32) (Et : Int32) : Prop := (0 < Gd → (∀ u2, u2 = f_X1_clear Em Eb Et → ((S_X2_firstKept Gf Gd) ∧ (∀ u4, u4 = f_X2_firstKept Gf Gd → ((S_X5_giveBackKept u4 Bc Bl Pk Pr Pl Pc Pm Ek Er Ea u2.1 u2.2.1) ∧ (∀ u6, u6 = f_X5_giveBackKept u4 Bc Bl Pk Pr Pl Pc Pm Ek Er Ea u2.1 u2.2.1 → ((S_X1_copyTokens Gt Gx Gd Gm Ex u2.2.2) ∧ (∀ u8, u8 = f_X1_copyTokens Gt Gx Gd Gm Ex u2.2.2 → ((S_X2_close Gt Gd Gm) ∧ (∀ u10, u10 = f_X2_close Gt Gd Gm → (True))))))))))) ∧ (¬ 0 < Gd → (True))
set_option maxHeartbeats 4000000 in
set_option maxRecDepth 100000 in
theorem c_X5_end (l : Launch) (hst : l.stackTraces = false) (dC : Nat → ClassId) (dI : Nat → Nat → Nat) (cI cJ : ClassId) (ad : Nat → Nat) (hi : fI 23 ad) (sz : Nat) (Bc : Nat → Int64) (Bl : Nat → Int32) (Pk : Nat → Int32) (Pr : Nat → Int32) (Pl : Nat → Int32) (Pc : Nat → Int64) (Pm : Int32) (Gf : Nat → Int32) (Gt : Nat → Int32) (Gx : Nat → Int32) (Gd : Int32) (Gm : Int32) (Ek : Nat → Int32) (Er : Nat → Int32) (Ea : Nat → Int32) (Ex : Nat → Int32) (Em : Int32) (Eb : Int32) (Et : Int32) (Ss : Nat → Int32) (Sm : Int32) (Wg : Nat → Int64) (Wr : Nat → Int64) (Md : Nat → Int64) (hs : S_X5_end Bc Bl Pk Pr Pl Pc Pm Gf Gt Gx Gd Gm Ek Er Ea Ex Em Eb Et) : vx_Met l yX5_end (mW yX5_end cX5_end 1 (some .int)) { frames := 6, cells := 1, slots := 6, locals := 110 } (va_Pc [.ref (ad 0)] (fun U => U.heap.size = sz ∧ va_P (dC, dI) vwCl (wC ad cI cJ Bc Bl Pk Pr Pl Pc Pm Gf Gt Gx Gd Gm Ek Er Ea Ex Em Eb Et Ss Sm Wg Wr Md) U.heap ∧ va_K (dC, dI) vwCl [(cI, .int), (cJ, .long)] U ∧ cxt (fA 23 ad sz) U U.heap)) (va_Qi (fun (r : Int32) (_ : Unit) => (f_X5_end Bc Bl Pk Pr Pl Pc Pm Gf Gt Gx Gd Gm Ek Er Ea Ex Em Eb Et).1 = 0 ∧ r = (f_X5_end Bc Bl Pk Pr Pl Pc Pm Gf Gt Gx Gd Gm Ek Er Ea Ex Em Eb Et).2.1) (fun _ t => va_P (dC, dI) vwCl (wC ad cI cJ ((f_X5_end Bc Bl Pk Pr Pl Pc Pm Gf Gt Gx Gd Gm Ek Er Ea Ex Em Eb Et).2.2.1) ((f_X5_end Bc Bl Pk Pr Pl Pc Pm Gf Gt Gx Gd Gm Ek Er Ea Ex Em Eb Et).2.2.2.1) Pk Pr Pl Pc ((f_X5_end Bc Bl Pk Pr Pl Pc Pm Gf Gt Gx Gd Gm Ek Er Ea Ex Em Eb Et).2.2.2.2.1) Gf Gt Gx ((f_X5_end Bc Bl Pk Pr Pl Pc Pm Gf Gt Gx Gd Gm Ek Er Ea Ex Em Eb Et).2.2.2.2.2.1) ((f_X5_end Bc Bl Pk Pr Pl Pc Pm Gf Gt Gx Gd Gm Ek Er Ea Ex Em Eb Et).2.2.2.2.2.2.1) ((f_X5_end Bc Bl Pk Pr Pl Pc Pm Gf Gt Gx Gd Gm Ek Er Ea Ex Em Eb Et).2.2.2.2.2.2.2.1) ((f_X5_end Bc Bl Pk Pr Pl Pc Pm Gf Gt Gx Gd Gm Ek Er Ea Ex Em Eb Et).2.2.2.2.2.2.2.2.1) ((f_X5_end Bc Bl Pk Pr Pl Pc Pm Gf Gt Gx Gd Gm Ek Er Ea Ex Em Eb Et).2.2.2.2.2.2.2.2.2.1) ((f_X5_end Bc Bl Pk Pr Pl Pc Pm Gf Gt Gx Gd Gm Ek Er Ea Ex Em Eb Et).2.2.2.2.2.2.2.2.2.2.1) ((f_X5_end Bc Bl Pk Pr Pl Pc Pm Gf Gt Gx Gd Gm Ek Er Ea Ex Em Eb Et).2.2.2.2.2.2.2.2.2.2.2.1) ((f_X5_end Bc Bl Pk Pr Pl Pc Pm Gf Gt Gx Gd Gm Ek Er Ea Ex Em Eb Et).2.2.2.2.2.2.2.2.2.2.2.2.1) ((f_X5_end Bc Bl Pk Pr Pl Pc Pm Gf Gt Gx Gd Gm Ek Er Ea Ex Em Eb Et).2.2.2.2.2.2.2.2.2.2.2.2.2) Ss Sm Wg Wr Md) t.heap) (fA 23 ad sz)) (vx_X (fun _ : Unit => ¬ (f_X5_end Bc Bl Pk Pr Pl Pc Pm Gf Gt Gx Gd Gm Ek Er Ea Ex Em Eb Et).1 = 0) (fun E _ t => E = exN ((f_X5_end Bc Bl Pk Pr Pl Pc Pm Gf Gt Gx Gd Gm Ek Er Ea Ex Em Eb Et).1) ∧ va_P (dC, dI) vwCl (wC ad cI cJ ((f_X5_end Bc Bl Pk Pr Pl Pc Pm Gf Gt Gx Gd Gm Ek Er Ea Ex Em Eb Et).2.2.1) ((f_X5_end Bc Bl Pk Pr Pl Pc Pm Gf Gt Gx Gd Gm Ek Er Ea Ex Em Eb Et).2.2.2.1) Pk Pr Pl Pc ((f_X5_end Bc Bl Pk Pr Pl Pc Pm Gf Gt Gx Gd Gm Ek Er Ea Ex Em Eb Et).2.2.2.2.1) Gf Gt Gx ((f_X5_end Bc Bl Pk Pr Pl Pc Pm Gf Gt Gx Gd Gm Ek Er Ea Ex Em Eb Et).2.2.2.2.2.1) ((f_X5_end Bc Bl Pk Pr Pl Pc Pm Gf Gt Gx Gd Gm Ek Er Ea Ex Em Eb Et).2.2.2.2.2.2.1) ((f_X5_end Bc Bl Pk Pr Pl Pc Pm Gf Gt Gx Gd Gm Ek Er Ea Ex Em Eb Et).2.2.2.2.2.2.2.1) ((f_X5_end Bc Bl Pk Pr Pl Pc Pm Gf Gt Gx Gd Gm Ek Er Ea Ex Em Eb Et).2.2.2.2.2.2.2.2.1) ((f_X5_end Bc Bl Pk Pr Pl Pc Pm Gf Gt Gx Gd Gm Ek Er Ea Ex Em Eb Et).2.2.2.2.2.2.2.2.2.1) ((f_X5_end Bc Bl Pk Pr Pl Pc Pm Gf Gt Gx Gd Gm Ek Er Ea Ex Em Eb Et).2.2.2.2.2.2.2.2.2.2.1) ((f_X5_end Bc Bl Pk Pr Pl Pc Pm Gf Gt Gx Gd Gm Ek Er Ea Ex Em Eb Et).2.2.2.2.2.2.2.2.2.2.2.1) ((f_X5_end Bc Bl Pk Pr Pl Pc Pm Gf Gt Gx Gd Gm Ek Er Ea Ex Em Eb Et).2.2.2.2.2.2.2.2.2.2.2.2.1) ((f_X5_end Bc Bl Pk Pr Pl Pc Pm Gf Gt Gx Gd Gm Ek Er Ea Ex Em Eb Et).2.2.2.2.2.2.2.2.2.2.2.2.2) Ss Sm Wg Wr Md) t.heap) (fA 23 ad sz)) 1 6 (fA 23 ad sz) := by
  refine vx_ofW (cc := cX5_end) (maxL := 1) (ret := (some .int)) (by decide) rfl ?_
  intro p e s m args below meth c s₁ B hml ht hv
  obtain ⟨rfl, hsz, hP, hK, hC⟩ := hv
  have hx := B.exec
  have hb := B.bytes
  have hr := B.returns
  have hts := mW_hts (atoms_spec (ws := (mW yX5_end cX5_end 1 (some .int))) B.pre)
  have hown : s.vm.findClass RX5 = some m.cls := findClass_of_methodNamed B.named
  have hlocks := B.notSynchronized
  subst hsz
  have hA : ∀ (n : Nat) (q : Nat), s.heap.size ≤ n → n ≤ q → fA 23 ad s.heap.size q := fun n q h1 h2 => Or.inr (Nat.le_trans h1 h2)
  have hS : va_S (fA 23 ad s.heap.size) s.heap s.heap [] := va_S.rf
  have hA : ∀ q, s.heap.size ≤ q → (fA 23 ad s.heap.size) q := fun q h => Or.inr h
  unfold S_X5_end at hs
  have hl := lv_entry ([.ref (ad 0)]) (n := 1) (Nat.le_of_ble_eq_true rfl)
  rw [lg_entry_eq]
  generalize (lg_sl ([.ref (ad 0)]) ++ List.replicate (1 - (lg_sl ([.ref (ad 0)])).length) Slot.unset).toArray = ls at hl ⊢
  have hl : lv_has ls 1 [(0, .ref (ad 0))] := hl
  refine W_gen (fun Q9 hQ9 => ?_)
  refine lv_aload_n hx hb dX5_end_0 rfl (lv_at hl 0 rfl) ?_
  refine va_get (D := (dC, dI)) (ci := 7) (v := .ref (ad 9)) (C := RX5) (T := TX5) (N := 8) hx hb hts iW_X5 hown hK hP 0 rfl rfl 2 (by decide) (hts _ mF_RX5_26) (fun _ h9 => h9) rfl dX5_end_1 ?_
  refine va_get (D := (dC, dI)) (ci := 4) (v := .int Gd) (C := RX2) (T := TX2) (N := 5) hx hb hts iW_X2 hown hK hP 9 rfl rfl 3 (by decide) (hts _ mF_RX5_134) (fun _ h9 => h9) rfl dX5_end_4 ?_
  refine lv_if_gt (tgt := 20) hx hb dX5_end_7 (by decide) (fun c1 => ?_) (fun c1 => ?_)
  · have hs := hs.1 c1
    refine lv_aload_n hx hb dX5_end_20 rfl (lv_at hl 0 rfl) ?_
    refine va_get (D := (dC, dI)) (ci := 7) (v := .ref (ad 13)) (C := RX5) (T := TX5) (N := 8) hx hb hts iW_X5 hown hK hP 0 rfl rfl 3 (by decide) (hts _ mF_RX5_33) (fun _ h9 => h9) rfl dX5_end_21 ?_
    obtain ⟨u2, hu2⟩ : ∃ z, z = f_X1_clear Em Eb Et := ⟨_, rfl⟩
    have hs := hs u2 hu2
    refine q_X1_clear hx hb hml hown hts mM_RX5_164 ⟨Nat.le_of_ble_eq_true rfl, Nat.le_of_ble_eq_true rfl⟩ ⟨Nat.le_of_ble_eq_true rfl, Nat.le_of_ble_eq_true rfl⟩ hl.1 (Nat.le_of_ble_eq_true rfl) hS dX5_end_24 (fun _ h9 => fA_mono hS.1 h9) hi hK hP u2 hu2 (fun H locs hP hS => ?_)
    refine lv_aload_n hx hb dX5_end_27 rfl (lv_at hl 0 rfl) ?_
    refine lv_aload_n hx hb dX5_end_28 rfl (lv_at hl 0 rfl) ?_
    refine va_get (D := (dC, dI)) (ci := 7) (v := .ref (ad 9)) (C := RX5) (T := TX5) (N := 8) hx hb hts iW_X5 hown hK hP 0 rfl rfl 2 (by decide) (hts _ mF_RX5_26) (fun _ h9 => h9) rfl dX5_end_29 ?_
    obtain ⟨h3, hs⟩ := hs
    obtain ⟨u4, hu4⟩ : ∃ z, z = f_X2_firstKept Gf Gd := ⟨_, rfl⟩
    have hs := hs u4 hu4
    refine q_X2_firstKept hx hb hml hown hts mM_RX5_167 ⟨Nat.le_of_ble_eq_true rfl, Nat.le_of_ble_eq_true rfl⟩ ⟨Nat.le_of_ble_eq_true rfl, Nat.le_of_ble_eq_true rfl⟩ hl.1 (Nat.le_of_ble_eq_true rfl) hS dX5_end_32 (fun _ h9 => fA_mono hS.1 h9) hi hK hP h3 u4 hu4 (fun H locs hP hS => ?_)
    obtain ⟨h5, hs⟩ := hs
    obtain ⟨u6, hu6⟩ : ∃ z, z = f_X5_giveBackKept u4 Bc Bl Pk Pr Pl Pc Pm Ek Er Ea u2.1 u2.2.1 := ⟨_, rfl⟩
    have hs := hs u6 hu6
    refine q_X5_giveBackKept hx hb hml hown hts mM_RX5_170 ⟨Nat.le_of_ble_eq_true rfl, Nat.le_of_ble_eq_true rfl⟩ ⟨Nat.le_of_ble_eq_true rfl, Nat.le_of_ble_eq_true rfl⟩ hl.1 (Nat.le_of_ble_eq_true rfl) hS dX5_end_35 (fun _ h9 => fA_mono hS.1 h9) hi hK hP hC u4 h5 u6 hu6 (fun H locs hP hS => ?_)
    refine lv_aload_n hx hb dX5_end_38 rfl (lv_at hl 0 rfl) ?_
    refine va_get (D := (dC, dI)) (ci := 7) (v := .ref (ad 13)) (C := RX5) (T := TX5) (N := 8) hx hb hts iW_X5 hown hK hP 0 rfl rfl 3 (by decide) (hts _ mF_RX5_33) (fun _ h9 => h9) rfl dX5_end_39 ?_
    refine lv_aload_n hx hb dX5_end_42 rfl (lv_at hl 0 rfl) ?_
    refine va_get (D := (dC, dI)) (ci := 7) (v := .ref (ad 9)) (C := RX5) (T := TX5) (N := 8) hx hb hts iW_X5 hown hK hP 0 rfl rfl 2 (by decide) (hts _ mF_RX5_26) (fun _ h9 => h9) rfl dX5_end_43 ?_
    obtain ⟨h7, hs⟩ := hs
    obtain ⟨u8, hu8⟩ : ∃ z, z = f_X1_copyTokens Gt Gx Gd Gm Ex u2.2.2 := ⟨_, rfl⟩
    have hs := hs u8 hu8
    refine q_X1_copyTokens hx hb hml hown hts mM_RX5_173 ⟨Nat.le_of_ble_eq_true rfl, Nat.le_of_ble_eq_true rfl⟩ ⟨Nat.le_of_ble_eq_true rfl, Nat.le_of_ble_eq_true rfl⟩ hl.1 (Nat.le_of_ble_eq_true rfl) hS dX5_end_46 (fun _ h9 => fA_mono hS.1 h9) hi hK hP h7 u8 hu8 (fun H locs hP hS => ?_)
    refine lv_aload_n hx hb dX5_end_49 rfl (lv_at hl 0 rfl) ?_
    refine va_get (D := (dC, dI)) (ci := 7) (v := .ref (ad 9)) (C := RX5) (T := TX5) (N := 8) hx hb hts iW_X5 hown hK hP 0 rfl rfl 2 (by decide) (hts _ mF_RX5_26) (fun _ h9 => h9) rfl dX5_end_50 ?_
    obtain ⟨h9, hs⟩ := hs
    obtain ⟨u10, hu10⟩ : ∃ z, z = f_X2_close Gt Gd Gm := ⟨_, rfl⟩
    have hs := hs u10 hu10
    refine q_X2_close hx hb hml hown hts mM_RX5_177 ⟨Nat.le_of_ble_eq_true rfl, Nat.le_of_ble_eq_true rfl⟩ ⟨Nat.le_of_ble_eq_true rfl, Nat.le_of_ble_eq_true rfl⟩ hl.1 (Nat.le_of_ble_eq_true rfl) hS dX5_end_53 (fun _ h9 => fA_mono hS.1 h9) hi hK hP h9 u10 hu10 (fun H locs hP hS => ?_)
    refine lv_aload_n hx hb dX5_end_56 rfl (lv_at hl 0 rfl) ?_
    refine va_get (D := (dC, dI)) (ci := 7) (v := .ref (ad 13)) (C := RX5) (T := TX5) (N := 8) hx hb hts iW_X5 hown hK hP 0 rfl rfl 3 (by decide) (hts _ mF_RX5_33) (fun _ h9 => h9) rfl dX5_end_57 ?_
    refine va_get (D := (dC, dI)) (ci := 3) (v := .int u6.2.2.2.2.2.2.2) (C := RX1) (T := TX1) (N := 7) hx hb hts iW_X1 hown hK hP 13 rfl rfl 5 (by decide) (hts _ mF_RX5_180) (fun _ h9 => h9) rfl dX5_end_60 ?_
    rw [hQ9]
    have hf : f_X5_end Bc Bl Pk Pr Pl Pc Pm Gf Gt Gx Gd Gm Ek Er Ea Ex Em Eb Et = (0, u6.2.2.2.2.2.2.2, u6.1, u6.2.1, u6.2.2.1, u10.1, u10.2, u6.2.2.2.1, u6.2.2.2.2.1, u6.2.2.2.2.2.1, u8.1, u6.2.2.2.2.2.2.1, u6.2.2.2.2.2.2.2, u8.2) := by simp only [f_X5_end, if_pos c1, ← hu2, ← hu4, ← hu6, ← hu8, ← hu10]
    refine vx_ret ?_
    refine W.widen (k := 1) (n := 6) (Nat.le_of_ble_eq_true rfl) (Nat.le_of_ble_eq_true rfl) ?_
    exact W.iret (v := u6.2.2.2.2.2.2.2) hx hb hr (fun t ht hW => ⟨⟨u6.2.2.2.2.2.2.2, (), rfl, ⟨by rw [hf], by rw [hf]⟩, by rw [hf]; show va_P (dC, dI) vwCl _ t.heap; rw [ht]; exact hP⟩, hS.F ht⟩) hS.2.2 dX5_end_63
  · have hs := hs.2 c1
    rw [hQ9]
    have hf : f_X5_end Bc Bl Pk Pr Pl Pc Pm Gf Gt Gx Gd Gm Ek Er Ea Ex Em Eb Et = (4, 0, Bc, Bl, Pm, Gd, Gm, Ek, Er, Ea, Ex, Em, Eb, Et) := by simp only [f_X5_end, if_neg c1]
    obtain ⟨sa11, hsa11⟩ := hC.str 11 _ rfl
    refine vx_throwS (mc := 1) (ms := 6) (ik := 149) (ic := 153) (is := 151) (own := RX5) (cls := x_ISE) (text := "no GROUP") (names := x_nam) hx hb hst hown (by decide) nm_x (hts _ mC_RX5_149) (hts _ mN_IllegalStateException) hsa11 (xw_ISE hts hC) xg_ISE hC.1 hC.2.1 hS (by rw [hml]; exact hl.1) dX5_end_10 dX5_end_13 dX5_end_14 dX5_end_16 dX5_end_19 (fun x hx => (ht x hx).elim) (Nat.le_of_ble_eq_true rfl) (Nat.le_of_ble_eq_true rfl) (Nat.le_of_ble_eq_true rfl) (Nat.le_of_ble_eq_true rfl) hlocks (fun t hv hz hk => ⟨(), by rw [hf]; exact (by decide : ¬ (4 : Nat) = 0), ⟨by rw [hf]; rfl, by rw [hf]; exact hP.kept (fun k z hkz => hk z.1 (hP k z hkz).lt)⟩, ⟨Nat.le_trans hS.1 hz, fun q h1 h2 => (hk q (Nat.lt_of_lt_of_le h1 hS.1)).trans (hS.2.1 q h1 h2)⟩⟩) hS.2.2 (Nat.le_of_ble_eq_true rfl) (Nat.le_of_ble_eq_true rfl)
theorem q_X5_end {p : Program} {l : Launch} {e : Env} {R : Room} {s : State} {m : MethodId} {args : Array Value} {below : List Frame} {meth : Method} {c : Code} {H : Heap} {locs : List Loc} {cells slots : Nat} {Q : State → Prop} {pc : Nat} {ls : Array Slot} {rest : List Value} {cc : ByteArray} {nL idx : Nat} {own : String} {A0 : Nat → Prop} {dC : Nat → ClassId} {dI : Nat → Nat → Nat} {cI cJ : ClassId} {ad : Nat → Nat} {Bc : Nat → Int64} {Bl : Nat → Int32} {Pk : Nat → Int32} {Pr : Nat → Int32} {Pl : Nat → Int32} {Pc : Nat → Int64} {Pm : Int32} {Gf : Nat → Int32} {Gt : Nat → Int32} {Gx : Nat → Int32} {Gd : Int32} {Gm : Int32} {Ek : Nat → Int32} {Er : Nat → Int32} {Ea : Nat → Int32} {Ex : Nat → Int32} {Em : Int32} {Eb : Int32} {Et : Int32} {Ss : Nat → Int32} {Sm : Int32} {Wg : Nat → Int64} {Wr : Nat → Int64} {Md : Nat → Int64} (hst : l.stackTraces = false) (hx : p.tables.exec = Jvm.exec) (hb : c.code = cc) (hml : c.maxLocals = nL) (hown : s.vm.findClass own = some m.cls) (hts : ∀ w ∈ bigW, w.before args s = true) (hlk : Cond.methodLink own idx yX5_end ∈ bigW) (hR : 7 ≤ R.frames ∧ 130 ≤ R.locals) (hf : cells + 1 ≤ R.cells ∧ slots + 6 ≤ R.slots) (hz : ls.size = nL) (hw : (rest.map fun v => v.category).sum ≤ 8) (hS : va_S A0 s.heap H locs) (hd : decode cc pc = .ok (.invokevirtual idx, 3)) (hA : ∀ q, fA 23 ad H.size q → A0 q) (hi : fI 23 ad) (hK : va_K (dC, dI) vwCl [(cI, .int), (cJ, .long)] s) (hP : va_P (dC, dI) vwCl (wC ad cI cJ Bc Bl Pk Pr Pl Pc Pm Gf Gt Gx Gd Gm Ek Er Ea Ex Em Eb Et Ss Sm Wg Wr Md) H) (hC : cxt A0 s s.heap) (hs : S_X5_end Bc Bl Pk Pr Pl Pc Pm Gf Gt Gx Gd Gm Ek Er Ea Ex Em Eb Et)  (u : Nat × Int32 × (Nat → Int64) × (Nat → Int32) × Int32 × Int32 × Int32 × (Nat → Int32) × (Nat → Int32) × (Nat → Int32) × (Nat → Int32) × Int32 × Int32 × Int32) (hu : u = f_X5_end Bc Bl Pk Pr Pl Pc Pm Gf Gt Gx Gd Gm Ek Er Ea Ex Em Eb Et) (kx : ∀ {E : String} (hE : E = exN u.1) (ho : ¬ u.1 = 0) (H1 : Heap) (locs1 : List Loc), va_P (dC, dI) vwCl (wC ad cI cJ u.2.2.1 u.2.2.2.1 Pk Pr Pl Pc u.2.2.2.2.1 Gf Gt Gx u.2.2.2.2.2.1 u.2.2.2.2.2.2.1 u.2.2.2.2.2.2.2.1 u.2.2.2.2.2.2.2.2.1 u.2.2.2.2.2.2.2.2.2.1 u.2.2.2.2.2.2.2.2.2.2.1 u.2.2.2.2.2.2.2.2.2.2.2.1 u.2.2.2.2.2.2.2.2.2.2.2.2.1 u.2.2.2.2.2.2.2.2.2.2.2.2.2 Ss Sm Wg Wr Md) H1 → va_S A0 s.heap H1 locs1 → ∀ (ce : Cell) (q9 : Addr), H1[q9]? = some ce → ce.vm = .none → s.vm.findClass E = some ce.cls → vx_W p l e R s m args below meth c H1 locs1 (cells + 1) (slots + 6) Q (F0 m pc ls rest) q9) (k : u.1 = 0 → ∀ (H1 : Heap) (locs1 : List Loc), va_P (dC, dI) vwCl (wC ad cI cJ u.2.2.1 u.2.2.2.1 Pk Pr Pl Pc u.2.2.2.2.1 Gf Gt Gx u.2.2.2.2.2.1 u.2.2.2.2.2.2.1 u.2.2.2.2.2.2.2.1 u.2.2.2.2.2.2.2.2.1 u.2.2.2.2.2.2.2.2.2.1 u.2.2.2.2.2.2.2.2.2.2.1 u.2.2.2.2.2.2.2.2.2.2.2.1 u.2.2.2.2.2.2.2.2.2.2.2.2.1 u.2.2.2.2.2.2.2.2.2.2.2.2.2 Ss Sm Wg Wr Md) H1 → va_S A0 s.heap H1 locs1 → W p l e R s m args below meth c H1 locs1 (cells + 1) (slots + 6) Q (F0 m (pc + 3) ls (.int u.2.1 :: rest))) : W p l e R s m args below meth c H locs cells slots Q (F0 m pc ls (.ref (ad 0) :: rest)) := by
  subst hu
  exact vx_calli (vx_runV (As := []) (rest := rest) ⟨hx, hb, hml, hown, hts⟩ (c_X5_end l hst dC dI cI cJ ad hi H.size Bc Bl Pk Pr Pl Pc Pm Gf Gt Gx Gd Gm Ek Er Ea Ex Em Eb Et Ss Sm Wg Wr Md hs) (kV 0 hts hlk mI_X5_end mN_RX5 mY_X5_end mV_X5_end rfl rfl (by decide +kernel) hR) ⟨fun a U g mk q => ⟨q.1, q.2.1, q.2.2.1, va_K.moved (u := U) (U := U.calling g mk a) (Vm.Alike.refl U.vm) q.2.2.2.1, q.2.2.2.2.call⟩, va_recv hK hP (ci := 7) (q0 := 0) rfl rfl, fun U hU hW => ⟨rfl, by rw [hU], by rw [hU]; exact hP, va_K.moved hW.alike hK, hC.here hS hU hW hA⟩⟩ rfl rfl hz rfl (lv_room hw) hd hf) hS (fun q _ h => hA q h) (fun q h => hA q h) (fun q _ h => hA q h) (fun E ce q9 u t H1 locs1 ht hvm hw9 hB hz1 hk1 hS1 h1 h2 h3 => kx hB.1 hw9 H1 locs1 (by rw [← ht]; exact hB.2) hS1 ce q9 h1 h2 h3) (fun r u t H1 locs1 ht hvm hw9 hB hz1 hk1 hS1 => by
    obtain ⟨e1, rfl⟩ := hw9
    exact k e1 H1 locs1 (by rw [← ht]; exact hB) hS1)
theorem qf_X5_end {p : Program} {l : Launch} {e : Env} {R : Room} {s : State} {m : MethodId} {args : Array Value} {below : List Frame} {meth : Method} {c : Code} {H : Heap} {locs : List Loc} {cells slots : Nat} {Q : State → Prop} {pc : Nat} {ls : Array Slot} {rest : List Value} {cc : ByteArray} {nL idx : Nat} {own : String} {A0 : Nat → Prop} {dC : Nat → ClassId} {dI : Nat → Nat → Nat} {cI cJ : ClassId} {ad : Nat → Nat} {Bc : Nat → Int64} {Bl : Nat → Int32} {Pk : Nat → Int32} {Pr : Nat → Int32} {Pl : Nat → Int32} {Pc : Nat → Int64} {Pm : Int32} {Gf : Nat → Int32} {Gt : Nat → Int32} {Gx : Nat → Int32} {Gd : Int32} {Gm : Int32} {Ek : Nat → Int32} {Er : Nat → Int32} {Ea : Nat → Int32} {Ex : Nat → Int32} {Em : Int32} {Eb : Int32} {Et : Int32} {Ss : Nat → Int32} {Sm : Int32} {Wg : Nat → Int64} {Wr : Nat → Int64} {Md : Nat → Int64} (hst : l.stackTraces = false) (hx : p.tables.exec = Jvm.exec) (hb : c.code = cc) (hml : c.maxLocals = nL) (hown : s.vm.findClass own = some m.cls) (hts : ∀ w ∈ bigW, w.before args s = true) (hlk : Cond.methodLink own idx yX5_end ∈ bigW) (hR : 7 ≤ R.frames ∧ 130 ≤ R.locals) (hf : cells + 1 ≤ R.cells ∧ slots + 6 ≤ R.slots) (hz : ls.size = nL) (hw : (rest.map fun v => v.category).sum ≤ 8) (hS : va_S A0 s.heap H locs) (hd : decode cc pc = .ok (.invokevirtual idx, 3)) (hA : ∀ q, fA 23 ad H.size q → A0 q) (hi : fI 23 ad) (hK : va_K (dC, dI) vwCl [(cI, .int), (cJ, .long)] s) (hP : va_P (dC, dI) vwCl (wC ad cI cJ Bc Bl Pk Pr Pl Pc Pm Gf Gt Gx Gd Gm Ek Er Ea Ex Em Eb Et Ss Sm Wg Wr Md) H) (hC : cxt A0 s s.heap) (hs : S_X5_end Bc Bl Pk Pr Pl Pc Pm Gf Gt Gx Gd Gm Ek Er Ea Ex Em Eb Et)  (u : Nat × Int32 × (Nat → Int64) × (Nat → Int32) × Int32 × Int32 × Int32 × (Nat → Int32) × (Nat → Int32) × (Nat → Int32) × (Nat → Int32) × Int32 × Int32 × Int32) (hu : u = f_X5_end Bc Bl Pk Pr Pl Pc Pm Gf Gt Gx Gd Gm Ek Er Ea Ex Em Eb Et) (kx : ∀ {E : String} (hE : E = exN u.1) (ho : ¬ u.1 = 0) (H1 : Heap) (locs1 : List Loc), va_P (dC, dI) vwCl (wC ad cI cJ u.2.2.1 u.2.2.2.1 Pk Pr Pl Pc u.2.2.2.2.1 Gf Gt Gx u.2.2.2.2.2.1 u.2.2.2.2.2.2.1 u.2.2.2.2.2.2.2.1 u.2.2.2.2.2.2.2.2.1 u.2.2.2.2.2.2.2.2.2.1 u.2.2.2.2.2.2.2.2.2.2.1 u.2.2.2.2.2.2.2.2.2.2.2.1 u.2.2.2.2.2.2.2.2.2.2.2.2.1 u.2.2.2.2.2.2.2.2.2.2.2.2.2 Ss Sm Wg Wr Md) H1 → va_S A0 s.heap H1 locs1 → (∀ q : Nat, q < H.size → ¬ fA 23 ad H.size q → H1[q]? = H[q]?) → H.size ≤ H1.size → ∀ (ce : Cell) (q9 : Addr), H1[q9]? = some ce → ce.vm = .none → s.vm.findClass E = some ce.cls → vx_W p l e R s m args below meth c H1 locs1 (cells + 1) (slots + 6) Q (F0 m pc ls rest) q9) (k : u.1 = 0 → ∀ (H1 : Heap) (locs1 : List Loc), va_P (dC, dI) vwCl (wC ad cI cJ u.2.2.1 u.2.2.2.1 Pk Pr Pl Pc u.2.2.2.2.1 Gf Gt Gx u.2.2.2.2.2.1 u.2.2.2.2.2.2.1 u.2.2.2.2.2.2.2.1 u.2.2.2.2.2.2.2.2.1 u.2.2.2.2.2.2.2.2.2.1 u.2.2.2.2.2.2.2.2.2.2.1 u.2.2.2.2.2.2.2.2.2.2.2.1 u.2.2.2.2.2.2.2.2.2.2.2.2.1 u.2.2.2.2.2.2.2.2.2.2.2.2.2 Ss Sm Wg Wr Md) H1 → va_S A0 s.heap H1 locs1 → (∀ q : Nat, q < H.size → ¬ fA 23 ad H.size q → H1[q]? = H[q]?) → H.size ≤ H1.size → W p l e R s m args below meth c H1 locs1 (cells + 1) (slots + 6) Q (F0 m (pc + 3) ls (.int u.2.1 :: rest))) : W p l e R s m args below meth c H locs cells slots Q (F0 m pc ls (.ref (ad 0) :: rest)) := by
  subst hu
  exact vx_calli (vx_runV (As := []) (rest := rest) ⟨hx, hb, hml, hown, hts⟩ (c_X5_end l hst dC dI cI cJ ad hi H.size Bc Bl Pk Pr Pl Pc Pm Gf Gt Gx Gd Gm Ek Er Ea Ex Em Eb Et Ss Sm Wg Wr Md hs) (kV 0 hts hlk mI_X5_end mN_RX5 mY_X5_end mV_X5_end rfl rfl (by decide +kernel) hR) ⟨fun a U g mk q => ⟨q.1, q.2.1, q.2.2.1, va_K.moved (u := U) (U := U.calling g mk a) (Vm.Alike.refl U.vm) q.2.2.2.1, q.2.2.2.2.call⟩, va_recv hK hP (ci := 7) (q0 := 0) rfl rfl, fun U hU hW => ⟨rfl, by rw [hU], by rw [hU]; exact hP, va_K.moved hW.alike hK, hC.here hS hU hW hA⟩⟩ rfl rfl hz rfl (lv_room hw) hd hf) hS (fun q _ h => hA q h) (fun q h => hA q h) (fun q _ h => hA q h) (fun E ce q9 u t H1 locs1 ht hvm hw9 hB hz1 hk1 hS1 h1 h2 h3 => kx hB.1 hw9 H1 locs1 (by rw [← ht]; exact hB.2) hS1 hk1 hz1 ce q9 h1 h2 h3) (fun r u t H1 locs1 ht hvm hw9 hB hz1 hk1 hS1 => by
    obtain ⟨e1, rfl⟩ := hw9
    exact k e1 H1 locs1 (by rw [← ht]; exact hB) hS1 hk1 hz1)

def f_X5_restored (a0 : Int32) (a1 : Int32) (Ek : Nat → Int32) (Er : Nat → Int32) (Ea : Nat → Int32) (Em : Int32) : Nat × Int32 := (if a0 < 0 then (2, 0) else (if Em ≤ a0 then (2, 0) else (if (200 : Int32) ≤ a0 then (2, 0) else (if (f_X5_within a1.toInt64 (0 : Int64) (2 : Int64)) = 0 then (2, 0) else (if a1 = 0 then (0, (Ek a0.toNatClampNeg)) else (if a1 = (1 : Int32) then (0, (Er a0.toNatClampNeg)) else (0, (Ea a0.toNatClampNeg))))))))
def S_X5_restored (a0 : Int32) (a1 : Int32) (Ek : Nat → Int32) (Er : Nat → Int32) (Ea : Nat → Int32) (Em : Int32) : Prop := (a0 < 0 → (True)) ∧ (¬ a0 < 0 → ((Em ≤ a0 → (True)) ∧ (¬ Em ≤ a0 → (((200 : Int32) ≤ a0 → (True)) ∧ (¬ (200 : Int32) ≤ a0 → (((f_X5_within a1.toInt64 (0 : Int64) (2 : Int64)) = 0 → (True)) ∧ (¬ (f_X5_within a1.toInt64 (0 : Int64) (2 : Int64)) = 0 → ((a1 = 0 → ((vp_in a0 200) ∧ (True))) ∧ (¬ a1 = 0 → ((a1 = (1 : Int32) → ((vp_in a0 200) ∧ (True))) ∧ (¬ a1 = (1 : Int32) → ((vp_in a0 200) ∧ (True)))))))))))))
set_option maxHeartbeats 4000000 in
set_option maxRecDepth 100000 in
theorem c_X5_restored (l : Launch) (hst : l.stackTraces = false) (dC : Nat → ClassId) (dI : Nat → Nat → Nat) (cI cJ : ClassId) (ad : Nat → Nat) (hi : fI 23 ad) (sz : Nat) (Bc : Nat → Int64) (Bl : Nat → Int32) (Pk : Nat → Int32) (Pr : Nat → Int32) (Pl : Nat → Int32) (Pc : Nat → Int64) (Pm : Int32) (Gf : Nat → Int32) (Gt : Nat → Int32) (Gx : Nat → Int32) (Gd : Int32) (Gm : Int32) (Ek : Nat → Int32) (Er : Nat → Int32) (Ea : Nat → Int32) (Ex : Nat → Int32) (Em : Int32) (Eb : Int32) (Et : Int32) (Ss : Nat → Int32) (Sm : Int32) (Wg : Nat → Int64) (Wr : Nat → Int64) (Md : Nat → Int64) (a0 : Int32) (a1 : Int32) (hs : S_X5_restored a0 a1 Ek Er Ea Em) : vx_Met l yX5_restored (mW yX5_restored cX5_restored 3 (some .int)) { frames := 6, cells := 1, slots := 6, locals := 92 } (va_Pc [.ref (ad 0), .int a0, .int a1] (fun U => U.heap.size = sz ∧ va_P (dC, dI) vwCl (wC ad cI cJ Bc Bl Pk Pr Pl Pc Pm Gf Gt Gx Gd Gm Ek Er Ea Ex Em Eb Et Ss Sm Wg Wr Md) U.heap ∧ va_K (dC, dI) vwCl [(cI, .int), (cJ, .long)] U ∧ cxt (fA 23 ad sz) U U.heap)) (va_Qi (fun (r : Int32) (_ : Unit) => (f_X5_restored a0 a1 Ek Er Ea Em).1 = 0 ∧ r = (f_X5_restored a0 a1 Ek Er Ea Em).2) (fun _ t => va_P (dC, dI) vwCl (wC ad cI cJ Bc Bl Pk Pr Pl Pc Pm Gf Gt Gx Gd Gm Ek Er Ea Ex Em Eb Et Ss Sm Wg Wr Md) t.heap) (fA 23 ad sz)) (vx_X (fun _ : Unit => ¬ (f_X5_restored a0 a1 Ek Er Ea Em).1 = 0) (fun E _ t => E = exN ((f_X5_restored a0 a1 Ek Er Ea Em).1) ∧ va_P (dC, dI) vwCl (wC ad cI cJ Bc Bl Pk Pr Pl Pc Pm Gf Gt Gx Gd Gm Ek Er Ea Ex Em Eb Et Ss Sm Wg Wr Md) t.heap) (fA 23 ad sz)) 1 6 (fA 23 ad sz) := by
  refine vx_ofW (cc := cX5_restored) (maxL := 3) (ret := (some .int)) (by decide) rfl ?_
  intro p e s m args below meth c s₁ B hml ht hv
  obtain ⟨rfl, hsz, hP, hK, hC⟩ := hv
  have hx := B.exec
  have hb := B.bytes
  have hr := B.returns
  have hts := mW_hts (atoms_spec (ws := (mW yX5_restored cX5_restored 3 (some .int))) B.pre)
  have hown : s.vm.findClass RX5 = some m.cls := findClass_of_methodNamed B.named
  have hlocks := B.notSynchronized
  subst hsz
  have hA : ∀ (n : Nat) (q : Nat), s.heap.size ≤ n → n ≤ q → fA 23 ad s.heap.size q := fun n q h1 h2 => Or.inr (Nat.le_trans h1 h2)
  have hS : va_S (fA 23 ad s.heap.size) s.heap s.heap [] := va_S.rf
  have hA : ∀ q, s.heap.size ≤ q → (fA 23 ad s.heap.size) q := fun q h => Or.inr h
  unfold S_X5_restored at hs
  have hl := lv_entry ([.ref (ad 0), .int a0, .int a1]) (n := 3) (Nat.le_of_ble_eq_true rfl)
  rw [lg_entry_eq]
  generalize (lg_sl ([.ref (ad 0), .int a0, .int a1]) ++ List.replicate (3 - (lg_sl ([.ref (ad 0), .int a0, .int a1])).length) Slot.unset).toArray = ls at hl ⊢
  have hl : lv_has ls 3 [(0, .ref (ad 0)), (1, .int a0), (2, .int a1)] := hl
  refine W_gen (fun Q9 hQ9 => ?_)
  refine lv_iload_n hx hb dX5_restored_0 rfl (lv_at hl 1 rfl) ?_
  refine lv_if_lt (tgt := 34) hx hb dX5_restored_1 (by decide) (fun c1 => ?_) (fun c1 => ?_)
  · have hs := hs.1 c1
    rw [hQ9]
    have hf : f_X5_restored a0 a1 Ek Er Ea Em = (2, 0) := by simp only [f_X5_restored, if_pos c1]
    obtain ⟨sa2, hsa2⟩ := hC.str 13 _ rfl
    refine vx_throwS (mc := 1) (ms := 6) (ik := 108) (ic := 112) (is := 186) (own := RX5) (cls := x_IOO) (text := "none such went from the pile") (names := x_nam) hx hb hst hown (by decide) nm_x (hts _ mC_RX5_108) (hts _ mN_IndexOutOfBoundsException) hsa2 (xw_IOO hts hC) xg_IOO hC.1 hC.2.1 hS (by rw [hml]; exact hl.1) dX5_restored_34 dX5_restored_37 dX5_restored_38 dX5_restored_40 dX5_restored_43 (fun x hx => (ht x hx).elim) (Nat.le_of_ble_eq_true rfl) (Nat.le_of_ble_eq_true rfl) (Nat.le_of_ble_eq_true rfl) (Nat.le_of_ble_eq_true rfl) hlocks (fun t hv hz hk => ⟨(), by rw [hf]; exact (by decide : ¬ (2 : Nat) = 0), ⟨by rw [hf]; rfl, by exact hP.kept (fun k z hkz => hk z.1 (hP k z hkz).lt)⟩, ⟨Nat.le_trans hS.1 hz, fun q h1 h2 => (hk q (Nat.lt_of_lt_of_le h1 hS.1)).trans (hS.2.1 q h1 h2)⟩⟩) hS.2.2 (Nat.le_of_ble_eq_true rfl) (Nat.le_of_ble_eq_true rfl)
  · have hs := hs.2 c1
    refine lv_iload_n hx hb dX5_restored_4 rfl (lv_at hl 1 rfl) ?_
    refine lv_aload_n hx hb dX5_restored_5 rfl (lv_at hl 0 rfl) ?_
    refine va_get (D := (dC, dI)) (ci := 7) (v := .ref (ad 13)) (C := RX5) (T := TX5) (N := 8) hx hb hts iW_X5 hown hK hP 0 rfl rfl 3 (by decide) (hts _ mF_RX5_33) (fun _ h9 => h9) rfl dX5_restored_6 ?_
    refine va_get (D := (dC, dI)) (ci := 3) (v := .int Em) (C := RX1) (T := TX1) (N := 7) hx hb hts iW_X1 hown hK hP 13 rfl rfl 4 (by decide) (hts _ mF_RX5_183) (fun _ h9 => h9) rfl dX5_restored_9 ?_
    refine lv_icmp_ge (tgt := 34) hx hb dX5_restored_12 (by decide) (fun c3 => ?_) (fun c3 => ?_)
    · have hs := hs.1 c3
      rw [hQ9]
      have hf : f_X5_restored a0 a1 Ek Er Ea Em = (2, 0) := by simp only [f_X5_restored, if_neg c1, if_pos c3]
      obtain ⟨sa4, hsa4⟩ := hC.str 13 _ rfl
      refine vx_throwS (mc := 1) (ms := 6) (ik := 108) (ic := 112) (is := 186) (own := RX5) (cls := x_IOO) (text := "none such went from the pile") (names := x_nam) hx hb hst hown (by decide) nm_x (hts _ mC_RX5_108) (hts _ mN_IndexOutOfBoundsException) hsa4 (xw_IOO hts hC) xg_IOO hC.1 hC.2.1 hS (by rw [hml]; exact hl.1) dX5_restored_34 dX5_restored_37 dX5_restored_38 dX5_restored_40 dX5_restored_43 (fun x hx => (ht x hx).elim) (Nat.le_of_ble_eq_true rfl) (Nat.le_of_ble_eq_true rfl) (Nat.le_of_ble_eq_true rfl) (Nat.le_of_ble_eq_true rfl) hlocks (fun t hv hz hk => ⟨(), by rw [hf]; exact (by decide : ¬ (2 : Nat) = 0), ⟨by rw [hf]; rfl, by exact hP.kept (fun k z hkz => hk z.1 (hP k z hkz).lt)⟩, ⟨Nat.le_trans hS.1 hz, fun q h1 h2 => (hk q (Nat.lt_of_lt_of_le h1 hS.1)).trans (hS.2.1 q h1 h2)⟩⟩) hS.2.2 (Nat.le_of_ble_eq_true rfl) (Nat.le_of_ble_eq_true rfl)
    · have hs := hs.2 c3
      refine lv_iload_n hx hb dX5_restored_15 rfl (lv_at hl 1 rfl) ?_
      refine lv_sipush (v := 200) hx hb dX5_restored_16 (by decide) ?_
      refine lv_icmp_ge (tgt := 34) hx hb dX5_restored_19 (by decide) (fun c5 => ?_) (fun c5 => ?_)
      · have hs := hs.1 c5
        rw [hQ9]
        have hf : f_X5_restored a0 a1 Ek Er Ea Em = (2, 0) := by simp only [f_X5_restored, if_neg c1, if_neg c3, if_pos c5]
        obtain ⟨sa6, hsa6⟩ := hC.str 13 _ rfl
        refine vx_throwS (mc := 1) (ms := 6) (ik := 108) (ic := 112) (is := 186) (own := RX5) (cls := x_IOO) (text := "none such went from the pile") (names := x_nam) hx hb hst hown (by decide) nm_x (hts _ mC_RX5_108) (hts _ mN_IndexOutOfBoundsException) hsa6 (xw_IOO hts hC) xg_IOO hC.1 hC.2.1 hS (by rw [hml]; exact hl.1) dX5_restored_34 dX5_restored_37 dX5_restored_38 dX5_restored_40 dX5_restored_43 (fun x hx => (ht x hx).elim) (Nat.le_of_ble_eq_true rfl) (Nat.le_of_ble_eq_true rfl) (Nat.le_of_ble_eq_true rfl) (Nat.le_of_ble_eq_true rfl) hlocks (fun t hv hz hk => ⟨(), by rw [hf]; exact (by decide : ¬ (2 : Nat) = 0), ⟨by rw [hf]; rfl, by exact hP.kept (fun k z hkz => hk z.1 (hP k z hkz).lt)⟩, ⟨Nat.le_trans hS.1 hz, fun q h1 h2 => (hk q (Nat.lt_of_lt_of_le h1 hS.1)).trans (hS.2.1 q h1 h2)⟩⟩) hS.2.2 (Nat.le_of_ble_eq_true rfl) (Nat.le_of_ble_eq_true rfl)
      · have hs := hs.2 c5
        refine lv_iload_n hx hb dX5_restored_22 rfl (lv_at hl 2 rfl) ?_
        refine lv_i2l hx hb dX5_restored_23 rfl ?_
        refine lv_lconst (v := 0) hx hb dX5_restored_24 (by decide) ?_
        refine lv_ldc2 hx hb hown (hts _ mK_RX5_184) dX5_restored_25 ?_
        refine q_X5_within hx hb hml hown hts mM_RX5_71 ⟨Nat.le_of_ble_eq_true rfl, Nat.le_of_ble_eq_true rfl⟩ ⟨Nat.le_of_ble_eq_true rfl, Nat.le_of_ble_eq_true rfl⟩ hl.1 (Nat.le_of_ble_eq_true rfl) hS dX5_restored_28 hA a1.toInt64 (0 : Int64) (2 : Int64) (fun locs hS => ?_)
        refine lv_if_ne (tgt := 44) hx hb dX5_restored_31 (by decide) (fun c7 => ?_) (fun c7 => ?_)
        · have hs := hs.2 c7
          refine lv_iload_n hx hb dX5_restored_44 rfl (lv_at hl 2 rfl) ?_
          refine lv_if_ne (tgt := 60) hx hb dX5_restored_45 (by decide) (fun c8 => ?_) (fun c8 => ?_)
          · have hs := hs.2 c8
            refine lv_iload_n hx hb dX5_restored_60 rfl (lv_at hl 2 rfl) ?_
            refine lv_iconst (v := 1) hx hb dX5_restored_61 (by decide) ?_
            refine lv_icmp_ne (tgt := 77) hx hb dX5_restored_62 (by decide) (fun c9 => ?_) (fun c9 => ?_)
            · have hs := hs.2 c9
              refine lv_aload_n hx hb dX5_restored_77 rfl (lv_at hl 0 rfl) ?_
              refine va_get (D := (dC, dI)) (ci := 7) (v := .ref (ad 13)) (C := RX5) (T := TX5) (N := 8) hx hb hts iW_X5 hown hK hP 0 rfl rfl 3 (by decide) (hts _ mF_RX5_33) (fun _ h9 => h9) rfl dX5_restored_78 ?_
              refine va_get (D := (dC, dI)) (ci := 3) (v := .ref (ad 16)) (C := RX1) (T := TX1) (N := 7) hx hb hts iW_X1 hown hK hP 13 rfl rfl 2 (by decide) (hts _ mF_RX5_195) (fun _ h9 => h9) rfl dX5_restored_81 ?_
              refine lv_iload_n hx hb dX5_restored_84 rfl (lv_at hl 1 rfl) ?_
              obtain ⟨h10, hs⟩ := hs
              refine va_iald hx hb hK hP 16 0 rfl rfl h10 dX5_restored_85 ?_
              rw [hQ9]
              have hf : f_X5_restored a0 a1 Ek Er Ea Em = (0, (Ea a0.toNatClampNeg)) := by simp only [f_X5_restored, if_neg c1, if_neg c3, if_neg c5, if_neg c7, if_neg c8, if_neg c9]
              refine vx_ret ?_
              refine W.widen (k := 1) (n := 6) (Nat.le_of_ble_eq_true rfl) (Nat.le_of_ble_eq_true rfl) ?_
              exact W.iret (v := (Ea a0.toNatClampNeg)) hx hb hr (fun t ht hW => ⟨⟨(Ea a0.toNatClampNeg), (), rfl, ⟨by rw [hf], by rw [hf]⟩, by show va_P (dC, dI) vwCl _ t.heap; rw [ht]; exact hP⟩, hS.F ht⟩) hS.2.2 dX5_restored_86
            · have hs := hs.1 c9
              refine lv_aload_n hx hb dX5_restored_65 rfl (lv_at hl 0 rfl) ?_
              refine va_get (D := (dC, dI)) (ci := 7) (v := .ref (ad 13)) (C := RX5) (T := TX5) (N := 8) hx hb hts iW_X5 hown hK hP 0 rfl rfl 3 (by decide) (hts _ mF_RX5_33) (fun _ h9 => h9) rfl dX5_restored_66 ?_
              refine va_get (D := (dC, dI)) (ci := 3) (v := .ref (ad 15)) (C := RX1) (T := TX1) (N := 7) hx hb hts iW_X1 hown hK hP 13 rfl rfl 1 (by decide) (hts _ mF_RX5_192) (fun _ h9 => h9) rfl dX5_restored_69 ?_
              refine lv_iload_n hx hb dX5_restored_72 rfl (lv_at hl 1 rfl) ?_
              obtain ⟨h11, hs⟩ := hs
              refine va_iald hx hb hK hP 15 0 rfl rfl h11 dX5_restored_73 ?_
              refine lv_goto (tgt := 86) hx hb dX5_restored_74 (by decide) ?_
              rw [hQ9]
              have hf : f_X5_restored a0 a1 Ek Er Ea Em = (0, (Er a0.toNatClampNeg)) := by simp only [f_X5_restored, if_neg c1, if_neg c3, if_neg c5, if_neg c7, if_neg c8, if_pos c9]
              refine vx_ret ?_
              refine W.widen (k := 1) (n := 6) (Nat.le_of_ble_eq_true rfl) (Nat.le_of_ble_eq_true rfl) ?_
              exact W.iret (v := (Er a0.toNatClampNeg)) hx hb hr (fun t ht hW => ⟨⟨(Er a0.toNatClampNeg), (), rfl, ⟨by rw [hf], by rw [hf]⟩, by show va_P (dC, dI) vwCl _ t.heap; rw [ht]; exact hP⟩, hS.F ht⟩) hS.2.2 dX5_restored_86
          · have hs := hs.1 c8
            refine lv_aload_n hx hb dX5_restored_48 rfl (lv_at hl 0 rfl) ?_
            refine va_get (D := (dC, dI)) (ci := 7) (v := .ref (ad 13)) (C := RX5) (T := TX5) (N := 8) hx hb hts iW_X5 hown hK hP 0 rfl rfl 3 (by decide) (hts _ mF_RX5_33) (fun _ h9 => h9) rfl dX5_restored_49 ?_
            refine va_get (D := (dC, dI)) (ci := 3) (v := .ref (ad 14)) (C := RX1) (T := TX1) (N := 7) hx hb hts iW_X1 hown hK hP 13 rfl rfl 0 (by decide) (hts _ mF_RX5_188) (fun _ h9 => h9) rfl dX5_restored_52 ?_
            refine lv_iload_n hx hb dX5_restored_55 rfl (lv_at hl 1 rfl) ?_
            obtain ⟨h12, hs⟩ := hs
            refine va_iald hx hb hK hP 14 0 rfl rfl h12 dX5_restored_56 ?_
            refine lv_goto (tgt := 86) hx hb dX5_restored_57 (by decide) ?_
            rw [hQ9]
            have hf : f_X5_restored a0 a1 Ek Er Ea Em = (0, (Ek a0.toNatClampNeg)) := by simp only [f_X5_restored, if_neg c1, if_neg c3, if_neg c5, if_neg c7, if_pos c8]
            refine vx_ret ?_
            refine W.widen (k := 1) (n := 6) (Nat.le_of_ble_eq_true rfl) (Nat.le_of_ble_eq_true rfl) ?_
            exact W.iret (v := (Ek a0.toNatClampNeg)) hx hb hr (fun t ht hW => ⟨⟨(Ek a0.toNatClampNeg), (), rfl, ⟨by rw [hf], by rw [hf]⟩, by show va_P (dC, dI) vwCl _ t.heap; rw [ht]; exact hP⟩, hS.F ht⟩) hS.2.2 dX5_restored_86
        · have hs := hs.1 c7
          rw [hQ9]
          have hf : f_X5_restored a0 a1 Ek Er Ea Em = (2, 0) := by simp only [f_X5_restored, if_neg c1, if_neg c3, if_neg c5, if_pos c7]
          obtain ⟨sa13, hsa13⟩ := hC.str 13 _ rfl
          refine vx_throwS (mc := 1) (ms := 6) (ik := 108) (ic := 112) (is := 186) (own := RX5) (cls := x_IOO) (text := "none such went from the pile") (names := x_nam) hx hb hst hown (by decide) nm_x (hts _ mC_RX5_108) (hts _ mN_IndexOutOfBoundsException) hsa13 (xw_IOO hts hC) xg_IOO hC.1 hC.2.1 hS (by rw [hml]; exact hl.1) dX5_restored_34 dX5_restored_37 dX5_restored_38 dX5_restored_40 dX5_restored_43 (fun x hx => (ht x hx).elim) (Nat.le_of_ble_eq_true rfl) (Nat.le_of_ble_eq_true rfl) (Nat.le_of_ble_eq_true rfl) (Nat.le_of_ble_eq_true rfl) hlocks (fun t hv hz hk => ⟨(), by rw [hf]; exact (by decide : ¬ (2 : Nat) = 0), ⟨by rw [hf]; rfl, by exact hP.kept (fun k z hkz => hk z.1 (hP k z hkz).lt)⟩, ⟨Nat.le_trans hS.1 hz, fun q h1 h2 => (hk q (Nat.lt_of_lt_of_le h1 hS.1)).trans (hS.2.1 q h1 h2)⟩⟩) hS.2.2 (Nat.le_of_ble_eq_true rfl) (Nat.le_of_ble_eq_true rfl)
theorem q_X5_restored {p : Program} {l : Launch} {e : Env} {R : Room} {s : State} {m : MethodId} {args : Array Value} {below : List Frame} {meth : Method} {c : Code} {H : Heap} {locs : List Loc} {cells slots : Nat} {Q : State → Prop} {pc : Nat} {ls : Array Slot} {rest : List Value} {cc : ByteArray} {nL idx : Nat} {own : String} {A0 : Nat → Prop} {dC : Nat → ClassId} {dI : Nat → Nat → Nat} {cI cJ : ClassId} {ad : Nat → Nat} {Bc : Nat → Int64} {Bl : Nat → Int32} {Pk : Nat → Int32} {Pr : Nat → Int32} {Pl : Nat → Int32} {Pc : Nat → Int64} {Pm : Int32} {Gf : Nat → Int32} {Gt : Nat → Int32} {Gx : Nat → Int32} {Gd : Int32} {Gm : Int32} {Ek : Nat → Int32} {Er : Nat → Int32} {Ea : Nat → Int32} {Ex : Nat → Int32} {Em : Int32} {Eb : Int32} {Et : Int32} {Ss : Nat → Int32} {Sm : Int32} {Wg : Nat → Int64} {Wr : Nat → Int64} {Md : Nat → Int64} (hst : l.stackTraces = false) (hx : p.tables.exec = Jvm.exec) (hb : c.code = cc) (hml : c.maxLocals = nL) (hown : s.vm.findClass own = some m.cls) (hts : ∀ w ∈ bigW, w.before args s = true) (hlk : Cond.methodLink own idx yX5_restored ∈ bigW) (hR : 7 ≤ R.frames ∧ 114 ≤ R.locals) (hf : cells + 1 ≤ R.cells ∧ slots + 6 ≤ R.slots) (hz : ls.size = nL) (hw : (rest.map fun v => v.category).sum ≤ 8) (hS : va_S A0 s.heap H locs) (hd : decode cc pc = .ok (.invokevirtual idx, 3)) (hA : ∀ q, fA 23 ad H.size q → A0 q) (hi : fI 23 ad) (hK : va_K (dC, dI) vwCl [(cI, .int), (cJ, .long)] s) (hP : va_P (dC, dI) vwCl (wC ad cI cJ Bc Bl Pk Pr Pl Pc Pm Gf Gt Gx Gd Gm Ek Er Ea Ex Em Eb Et Ss Sm Wg Wr Md) H) (hC : cxt A0 s s.heap) (a0 : Int32) (a1 : Int32) (hs : S_X5_restored a0 a1 Ek Er Ea Em)  (u : Nat × Int32) (hu : u = f_X5_restored a0 a1 Ek Er Ea Em) (kx : ∀ {E : String} (hE : E = exN u.1) (ho : ¬ u.1 = 0) (H1 : Heap) (locs1 : List Loc), va_P (dC, dI) vwCl (wC ad cI cJ Bc Bl Pk Pr Pl Pc Pm Gf Gt Gx Gd Gm Ek Er Ea Ex Em Eb Et Ss Sm Wg Wr Md) H1 → va_S A0 s.heap H1 locs1 → ∀ (ce : Cell) (q9 : Addr), H1[q9]? = some ce → ce.vm = .none → s.vm.findClass E = some ce.cls → vx_W p l e R s m args below meth c H1 locs1 (cells + 1) (slots + 6) Q (F0 m pc ls rest) q9) (k : u.1 = 0 → ∀ (H1 : Heap) (locs1 : List Loc), va_P (dC, dI) vwCl (wC ad cI cJ Bc Bl Pk Pr Pl Pc Pm Gf Gt Gx Gd Gm Ek Er Ea Ex Em Eb Et Ss Sm Wg Wr Md) H1 → va_S A0 s.heap H1 locs1 → W p l e R s m args below meth c H1 locs1 (cells + 1) (slots + 6) Q (F0 m (pc + 3) ls (.int u.2 :: rest))) : W p l e R s m args below meth c H locs cells slots Q (F0 m pc ls (.int a1 :: .int a0 :: .ref (ad 0) :: rest)) := by
  subst hu
  exact vx_calli (vx_runV (As := [.int a0, .int a1]) (rest := rest) ⟨hx, hb, hml, hown, hts⟩ (c_X5_restored l hst dC dI cI cJ ad hi H.size Bc Bl Pk Pr Pl Pc Pm Gf Gt Gx Gd Gm Ek Er Ea Ex Em Eb Et Ss Sm Wg Wr Md a0 a1 hs) (kV 2 hts hlk mI_X5_restored mN_RX5 mY_X5_restored mV_X5_restored rfl rfl (by decide +kernel) hR) ⟨fun a U g mk q => ⟨q.1, q.2.1, q.2.2.1, va_K.moved (u := U) (U := U.calling g mk a) (Vm.Alike.refl U.vm) q.2.2.2.1, q.2.2.2.2.call⟩, va_recv hK hP (ci := 7) (q0 := 0) rfl rfl, fun U hU hW => ⟨rfl, by rw [hU], by rw [hU]; exact hP, va_K.moved hW.alike hK, hC.here hS hU hW hA⟩⟩ rfl rfl hz rfl (lv_room hw) hd hf) hS (fun q _ h => hA q h) (fun q h => hA q h) (fun q _ h => hA q h) (fun E ce q9 u t H1 locs1 ht hvm hw9 hB hz1 hk1 hS1 h1 h2 h3 => kx hB.1 hw9 H1 locs1 (by rw [← ht]; exact hB.2) hS1 ce q9 h1 h2 h3) (fun r u t H1 locs1 ht hvm hw9 hB hz1 hk1 hS1 => by
    obtain ⟨e1, rfl⟩ := hw9
    exact k e1 H1 locs1 (by rw [← ht]; exact hB) hS1)
theorem qf_X5_restored {p : Program} {l : Launch} {e : Env} {R : Room} {s : State} {m : MethodId} {args : Array Value} {below : List Frame} {meth : Method} {c : Code} {H : Heap} {locs : List Loc} {cells slots : Nat} {Q : State → Prop} {pc : Nat} {ls : Array Slot} {rest : List Value} {cc : ByteArray} {nL idx : Nat} {own : String} {A0 : Nat → Prop} {dC : Nat → ClassId} {dI : Nat → Nat → Nat} {cI cJ : ClassId} {ad : Nat → Nat} {Bc : Nat → Int64} {Bl : Nat → Int32} {Pk : Nat → Int32} {Pr : Nat → Int32} {Pl : Nat → Int32} {Pc : Nat → Int64} {Pm : Int32} {Gf : Nat → Int32} {Gt : Nat → Int32} {Gx : Nat → Int32} {Gd : Int32} {Gm : Int32} {Ek : Nat → Int32} {Er : Nat → Int32} {Ea : Nat → Int32} {Ex : Nat → Int32} {Em : Int32} {Eb : Int32} {Et : Int32} {Ss : Nat → Int32} {Sm : Int32} {Wg : Nat → Int64} {Wr : Nat → Int64} {Md : Nat → Int64} (hst : l.stackTraces = false) (hx : p.tables.exec = Jvm.exec) (hb : c.code = cc) (hml : c.maxLocals = nL) (hown : s.vm.findClass own = some m.cls) (hts : ∀ w ∈ bigW, w.before args s = true) (hlk : Cond.methodLink own idx yX5_restored ∈ bigW) (hR : 7 ≤ R.frames ∧ 114 ≤ R.locals) (hf : cells + 1 ≤ R.cells ∧ slots + 6 ≤ R.slots) (hz : ls.size = nL) (hw : (rest.map fun v => v.category).sum ≤ 8) (hS : va_S A0 s.heap H locs) (hd : decode cc pc = .ok (.invokevirtual idx, 3)) (hA : ∀ q, fA 23 ad H.size q → A0 q) (hi : fI 23 ad) (hK : va_K (dC, dI) vwCl [(cI, .int), (cJ, .long)] s) (hP : va_P (dC, dI) vwCl (wC ad cI cJ Bc Bl Pk Pr Pl Pc Pm Gf Gt Gx Gd Gm Ek Er Ea Ex Em Eb Et Ss Sm Wg Wr Md) H) (hC : cxt A0 s s.heap) (a0 : Int32) (a1 : Int32) (hs : S_X5_restored a0 a1 Ek Er Ea Em)  (u : Nat × Int32) (hu : u = f_X5_restored a0 a1 Ek Er Ea Em) (kx : ∀ {E : String} (hE : E = exN u.1) (ho : ¬ u.1 = 0) (H1 : Heap) (locs1 : List Loc), va_P (dC, dI) vwCl (wC ad cI cJ Bc Bl Pk Pr Pl Pc Pm Gf Gt Gx Gd Gm Ek Er Ea Ex Em Eb Et Ss Sm Wg Wr Md) H1 → va_S A0 s.heap H1 locs1 → (∀ q : Nat, q < H.size → ¬ fA 23 ad H.size q → H1[q]? = H[q]?) → H.size ≤ H1.size → ∀ (ce : Cell) (q9 : Addr), H1[q9]? = some ce → ce.vm = .none → s.vm.findClass E = some ce.cls → vx_W p l e R s m args below meth c H1 locs1 (cells + 1) (slots + 6) Q (F0 m pc ls rest) q9) (k : u.1 = 0 → ∀ (H1 : Heap) (locs1 : List Loc), va_P (dC, dI) vwCl (wC ad cI cJ Bc Bl Pk Pr Pl Pc Pm Gf Gt Gx Gd Gm Ek Er Ea Ex Em Eb Et Ss Sm Wg Wr Md) H1 → va_S A0 s.heap H1 locs1 → (∀ q : Nat, q < H.size → ¬ fA 23 ad H.size q → H1[q]? = H[q]?) → H.size ≤ H1.size → W p l e R s m args below meth c H1 locs1 (cells + 1) (slots + 6) Q (F0 m (pc + 3) ls (.int u.2 :: rest))) : W p l e R s m args below meth c H locs cells slots Q (F0 m pc ls (.int a1 :: .int a0 :: .ref (ad 0) :: rest)) := by
  subst hu
  exact vx_calli (vx_runV (As := [.int a0, .int a1]) (rest := rest) ⟨hx, hb, hml, hown, hts⟩ (c_X5_restored l hst dC dI cI cJ ad hi H.size Bc Bl Pk Pr Pl Pc Pm Gf Gt Gx Gd Gm Ek Er Ea Ex Em Eb Et Ss Sm Wg Wr Md a0 a1 hs) (kV 2 hts hlk mI_X5_restored mN_RX5 mY_X5_restored mV_X5_restored rfl rfl (by decide +kernel) hR) ⟨fun a U g mk q => ⟨q.1, q.2.1, q.2.2.1, va_K.moved (u := U) (U := U.calling g mk a) (Vm.Alike.refl U.vm) q.2.2.2.1, q.2.2.2.2.call⟩, va_recv hK hP (ci := 7) (q0 := 0) rfl rfl, fun U hU hW => ⟨rfl, by rw [hU], by rw [hU]; exact hP, va_K.moved hW.alike hK, hC.here hS hU hW hA⟩⟩ rfl rfl hz rfl (lv_room hw) hd hf) hS (fun q _ h => hA q h) (fun q h => hA q h) (fun q _ h => hA q h) (fun E ce q9 u t H1 locs1 ht hvm hw9 hB hz1 hk1 hS1 h1 h2 h3 => kx hB.1 hw9 H1 locs1 (by rw [← ht]; exact hB.2) hS1 hk1 hz1 ce q9 h1 h2 h3) (fun r u t H1 locs1 ht hvm hw9 hB hz1 hk1 hS1 => by
    obtain ⟨e1, rfl⟩ := hw9
    exact k e1 H1 locs1 (by rw [← ht]; exact hB) hS1 hk1 hz1)

def f_X5_behind (a0 : Int32) (Ex : Nat → Int32) (Et : Int32) : Int32 := (if a0 < 0 then (-1 : Int32) else (if Et ≤ a0 then (-1 : Int32) else (if a0 < (60 : Int32) then (Ex a0.toNatClampNeg) else (-1 : Int32))))
def S_X5_behind (a0 : Int32) (Ex : Nat → Int32) (Et : Int32) : Prop := (a0 < 0 → (True)) ∧ (¬ a0 < 0 → ((Et ≤ a0 → (True)) ∧ (¬ Et ≤ a0 → ((a0 < (60 : Int32) → ((vp_in a0 60) ∧ (True))) ∧ (¬ a0 < (60 : Int32) → (True))))))
set_option maxHeartbeats 4000000 in
set_option maxRecDepth 100000 in
theorem c_X5_behind (l : Launch) (dC : Nat → ClassId) (dI : Nat → Nat → Nat) (cI cJ : ClassId) (ad : Nat → Nat) (hi : fI 23 ad) (sz : Nat) (Bc : Nat → Int64) (Bl : Nat → Int32) (Pk : Nat → Int32) (Pr : Nat → Int32) (Pl : Nat → Int32) (Pc : Nat → Int64) (Pm : Int32) (Gf : Nat → Int32) (Gt : Nat → Int32) (Gx : Nat → Int32) (Gd : Int32) (Gm : Int32) (Ek : Nat → Int32) (Er : Nat → Int32) (Ea : Nat → Int32) (Ex : Nat → Int32) (Em : Int32) (Eb : Int32) (Et : Int32) (Ss : Nat → Int32) (Sm : Int32) (Wg : Nat → Int64) (Wr : Nat → Int64) (Md : Nat → Int64) (a0 : Int32) (hs : S_X5_behind a0 Ex Et) : Met l yX5_behind (mW yX5_behind cX5_behind 2 (some .int)) { frames := 0, cells := 0, slots := 0, locals := 0 } (va_Pc [.ref (ad 0), .int a0] (fun U => U.heap.size = sz ∧ va_P (dC, dI) vwCl (wC ad cI cJ Bc Bl Pk Pr Pl Pc Pm Gf Gt Gx Gd Gm Ek Er Ea Ex Em Eb Et Ss Sm Wg Wr Md) U.heap ∧ va_K (dC, dI) vwCl [(cI, .int), (cJ, .long)] U)) (va_Qi (fun (r : Int32) (_ : Unit) => r = f_X5_behind a0 Ex Et) (fun _ t => va_P (dC, dI) vwCl (wC ad cI cJ Bc Bl Pk Pr Pl Pc Pm Gf Gt Gx Gd Gm Ek Er Ea Ex Em Eb Et Ss Sm Wg Wr Md) t.heap) (fA 23 ad sz)) 0 0 (fA 23 ad sz) := by
  refine Met.ofW (cc := cX5_behind) (maxL := 2) (ret := (some .int)) (by decide) rfl ?_
  intro p e s m args below meth c s₁ B hml hv
  obtain ⟨rfl, hsz, hP, hK⟩ := hv
  have hx := B.exec
  have hb := B.bytes
  have hr := B.returns
  have hts := mW_hts (atoms_spec (ws := (mW yX5_behind cX5_behind 2 (some .int))) B.pre)
  have hown : s.vm.findClass RX5 = some m.cls := findClass_of_methodNamed B.named
  have hlocks := B.notSynchronized
  subst hsz
  have hA : ∀ (n : Nat) (q : Nat), s.heap.size ≤ n → n ≤ q → fA 23 ad s.heap.size q := fun n q h1 h2 => Or.inr (Nat.le_trans h1 h2)
  have hS : va_S (fA 23 ad s.heap.size) s.heap s.heap [] := va_S.rf
  have hA : ∀ q, s.heap.size ≤ q → (fA 23 ad s.heap.size) q := fun q h => Or.inr h
  unfold S_X5_behind at hs
  have hl := lv_entry ([.ref (ad 0), .int a0]) (n := 2) (Nat.le_of_ble_eq_true rfl)
  rw [lg_entry_eq]
  generalize (lg_sl ([.ref (ad 0), .int a0]) ++ List.replicate (2 - (lg_sl ([.ref (ad 0), .int a0])).length) Slot.unset).toArray = ls at hl ⊢
  have hl : lv_has ls 2 [(0, .ref (ad 0)), (1, .int a0)] := hl
  refine W_gen (fun Q9 hQ9 => ?_)
  refine lv_iload_n hx hb dX5_behind_0 rfl (lv_at hl 1 rfl) ?_
  refine lv_if_lt (tgt := 21) hx hb dX5_behind_1 (by decide) (fun c1 => ?_) (fun c1 => ?_)
  · have hs := hs.1 c1
    refine lv_iconst (v := (-1)) hx hb dX5_behind_21 (by decide) ?_
    rw [hQ9]
    have hf : f_X5_behind a0 Ex Et = (-1 : Int32) := by simp only [f_X5_behind, if_pos c1]
    exact W.iret (v := (-1 : Int32)) hx hb hr (fun t ht hW => ⟨⟨(-1 : Int32), (), rfl, by rw [hf], by show va_P (dC, dI) vwCl _ t.heap; rw [ht]; exact hP⟩, hS.F ht⟩) hS.2.2 dX5_behind_22
  · have hs := hs.2 c1
    refine lv_iload_n hx hb dX5_behind_4 rfl (lv_at hl 1 rfl) ?_
    refine lv_aload_n hx hb dX5_behind_5 rfl (lv_at hl 0 rfl) ?_
    refine va_get (D := (dC, dI)) (ci := 7) (v := .ref (ad 13)) (C := RX5) (T := TX5) (N := 8) hx hb hts iW_X5 hown hK hP 0 rfl rfl 3 (by decide) (hts _ mF_RX5_33) (fun _ h9 => h9) rfl dX5_behind_6 ?_
    refine va_get (D := (dC, dI)) (ci := 3) (v := .int Et) (C := RX1) (T := TX1) (N := 7) hx hb hts iW_X1 hown hK hP 13 rfl rfl 6 (by decide) (hts _ mF_RX5_198) (fun _ h9 => h9) rfl dX5_behind_9 ?_
    refine lv_icmp_ge (tgt := 21) hx hb dX5_behind_12 (by decide) (fun c2 => ?_) (fun c2 => ?_)
    · have hs := hs.1 c2
      refine lv_iconst (v := (-1)) hx hb dX5_behind_21 (by decide) ?_
      rw [hQ9]
      have hf : f_X5_behind a0 Ex Et = (-1 : Int32) := by simp only [f_X5_behind, if_neg c1, if_pos c2]
      exact W.iret (v := (-1 : Int32)) hx hb hr (fun t ht hW => ⟨⟨(-1 : Int32), (), rfl, by rw [hf], by show va_P (dC, dI) vwCl _ t.heap; rw [ht]; exact hP⟩, hS.F ht⟩) hS.2.2 dX5_behind_22
    · have hs := hs.2 c2
      refine lv_iload_n hx hb dX5_behind_15 rfl (lv_at hl 1 rfl) ?_
      refine lv_bipush (v := 60) hx hb dX5_behind_16 (by decide) ?_
      refine lv_icmp_lt (tgt := 23) hx hb dX5_behind_18 (by decide) (fun c3 => ?_) (fun c3 => ?_)
      · have hs := hs.1 c3
        refine lv_aload_n hx hb dX5_behind_23 rfl (lv_at hl 0 rfl) ?_
        refine va_get (D := (dC, dI)) (ci := 7) (v := .ref (ad 13)) (C := RX5) (T := TX5) (N := 8) hx hb hts iW_X5 hown hK hP 0 rfl rfl 3 (by decide) (hts _ mF_RX5_33) (fun _ h9 => h9) rfl dX5_behind_24 ?_
        refine va_get (D := (dC, dI)) (ci := 3) (v := .ref (ad 17)) (C := RX1) (T := TX1) (N := 7) hx hb hts iW_X1 hown hK hP 13 rfl rfl 3 (by decide) (hts _ mF_RX5_201) (fun _ h9 => h9) rfl dX5_behind_27 ?_
        refine lv_iload_n hx hb dX5_behind_30 rfl (lv_at hl 1 rfl) ?_
        obtain ⟨h4, hs⟩ := hs
        refine va_iald hx hb hK hP 17 0 rfl rfl h4 dX5_behind_31 ?_
        rw [hQ9]
        have hf : f_X5_behind a0 Ex Et = (Ex a0.toNatClampNeg) := by simp only [f_X5_behind, if_neg c1, if_neg c2, if_pos c3]
        exact W.iret (v := (Ex a0.toNatClampNeg)) hx hb hr (fun t ht hW => ⟨⟨(Ex a0.toNatClampNeg), (), rfl, by rw [hf], by show va_P (dC, dI) vwCl _ t.heap; rw [ht]; exact hP⟩, hS.F ht⟩) hS.2.2 dX5_behind_32
      · have hs := hs.2 c3
        refine lv_iconst (v := (-1)) hx hb dX5_behind_21 (by decide) ?_
        rw [hQ9]
        have hf : f_X5_behind a0 Ex Et = (-1 : Int32) := by simp only [f_X5_behind, if_neg c1, if_neg c2, if_neg c3]
        exact W.iret (v := (-1 : Int32)) hx hb hr (fun t ht hW => ⟨⟨(-1 : Int32), (), rfl, by rw [hf], by show va_P (dC, dI) vwCl _ t.heap; rw [ht]; exact hP⟩, hS.F ht⟩) hS.2.2 dX5_behind_22
theorem q_X5_behind {p : Program} {l : Launch} {e : Env} {R : Room} {s : State} {m : MethodId} {args : Array Value} {below : List Frame} {meth : Method} {c : Code} {H : Heap} {locs : List Loc} {cells slots : Nat} {Q : State → Prop} {pc : Nat} {ls : Array Slot} {rest : List Value} {cc : ByteArray} {nL idx : Nat} {own : String} {A0 : Nat → Prop} {dC : Nat → ClassId} {dI : Nat → Nat → Nat} {cI cJ : ClassId} {ad : Nat → Nat} {Bc : Nat → Int64} {Bl : Nat → Int32} {Pk : Nat → Int32} {Pr : Nat → Int32} {Pl : Nat → Int32} {Pc : Nat → Int64} {Pm : Int32} {Gf : Nat → Int32} {Gt : Nat → Int32} {Gx : Nat → Int32} {Gd : Int32} {Gm : Int32} {Ek : Nat → Int32} {Er : Nat → Int32} {Ea : Nat → Int32} {Ex : Nat → Int32} {Em : Int32} {Eb : Int32} {Et : Int32} {Ss : Nat → Int32} {Sm : Int32} {Wg : Nat → Int64} {Wr : Nat → Int64} {Md : Nat → Int64} (hx : p.tables.exec = Jvm.exec) (hb : c.code = cc) (hml : c.maxLocals = nL) (hown : s.vm.findClass own = some m.cls) (hts : ∀ w ∈ bigW, w.before args s = true) (hlk : Cond.methodLink own idx yX5_behind ∈ bigW) (hR : 1 ≤ R.frames ∧ 21 ≤ R.locals) (hf : cells + 0 ≤ R.cells ∧ slots + 0 ≤ R.slots) (hz : ls.size = nL) (hw : (rest.map fun v => v.category).sum ≤ 8) (hS : va_S A0 s.heap H locs) (hd : decode cc pc = .ok (.invokevirtual idx, 3)) (hA : ∀ q, fA 23 ad H.size q → A0 q) (hi : fI 23 ad) (hK : va_K (dC, dI) vwCl [(cI, .int), (cJ, .long)] s) (hP : va_P (dC, dI) vwCl (wC ad cI cJ Bc Bl Pk Pr Pl Pc Pm Gf Gt Gx Gd Gm Ek Er Ea Ex Em Eb Et Ss Sm Wg Wr Md) H) (a0 : Int32) (hs : S_X5_behind a0 Ex Et)  (u : Int32) (hu : u = f_X5_behind a0 Ex Et) (k : ∀ (H1 : Heap) (locs1 : List Loc), va_P (dC, dI) vwCl (wC ad cI cJ Bc Bl Pk Pr Pl Pc Pm Gf Gt Gx Gd Gm Ek Er Ea Ex Em Eb Et Ss Sm Wg Wr Md) H1 → va_S A0 s.heap H1 locs1 → W p l e R s m args below meth c H1 locs1 (cells + 0) (slots + 0) Q (F0 m (pc + 3) ls (.int u :: rest))) : W p l e R s m args below meth c H locs cells slots Q (F0 m pc ls (.int a0 :: .ref (ad 0) :: rest)) := by
  subst hu
  exact va_calli (va_runV (As := [.int a0]) (rest := rest) ⟨hx, hb, hml, hown, hts⟩ (c_X5_behind l dC dI cI cJ ad hi H.size Bc Bl Pk Pr Pl Pc Pm Gf Gt Gx Gd Gm Ek Er Ea Ex Em Eb Et Ss Sm Wg Wr Md a0 hs) (kV 1 hts hlk mI_X5_behind mN_RX5 mY_X5_behind mV_X5_behind rfl rfl (by decide +kernel) hR) ⟨fun a U g mk q => ⟨q.1, q.2.1, q.2.2.1, va_K.moved (u := U) (U := U.calling g mk a) (Vm.Alike.refl U.vm) q.2.2.2⟩, va_recv hK hP (ci := 7) (q0 := 0) rfl rfl, fun U hU hW => ⟨rfl, by rw [hU], by rw [hU]; exact hP, va_K.moved hW.alike hK⟩⟩ rfl rfl hz rfl (lv_room hw) hd hf) hS (fun q _ h => hA q h) (fun q h => hA q h) (fun r u t H1 locs1 ht hvm hw9 hB hz1 hk1 hS1 => by
    subst hw9
    exact k H1 locs1 (by rw [← ht]; exact hB) hS1)
theorem qf_X5_behind {p : Program} {l : Launch} {e : Env} {R : Room} {s : State} {m : MethodId} {args : Array Value} {below : List Frame} {meth : Method} {c : Code} {H : Heap} {locs : List Loc} {cells slots : Nat} {Q : State → Prop} {pc : Nat} {ls : Array Slot} {rest : List Value} {cc : ByteArray} {nL idx : Nat} {own : String} {A0 : Nat → Prop} {dC : Nat → ClassId} {dI : Nat → Nat → Nat} {cI cJ : ClassId} {ad : Nat → Nat} {Bc : Nat → Int64} {Bl : Nat → Int32} {Pk : Nat → Int32} {Pr : Nat → Int32} {Pl : Nat → Int32} {Pc : Nat → Int64} {Pm : Int32} {Gf : Nat → Int32} {Gt : Nat → Int32} {Gx : Nat → Int32} {Gd : Int32} {Gm : Int32} {Ek : Nat → Int32} {Er : Nat → Int32} {Ea : Nat → Int32} {Ex : Nat → Int32} {Em : Int32} {Eb : Int32} {Et : Int32} {Ss : Nat → Int32} {Sm : Int32} {Wg : Nat → Int64} {Wr : Nat → Int64} {Md : Nat → Int64} (hx : p.tables.exec = Jvm.exec) (hb : c.code = cc) (hml : c.maxLocals = nL) (hown : s.vm.findClass own = some m.cls) (hts : ∀ w ∈ bigW, w.before args s = true) (hlk : Cond.methodLink own idx yX5_behind ∈ bigW) (hR : 1 ≤ R.frames ∧ 21 ≤ R.locals) (hf : cells + 0 ≤ R.cells ∧ slots + 0 ≤ R.slots) (hz : ls.size = nL) (hw : (rest.map fun v => v.category).sum ≤ 8) (hS : va_S A0 s.heap H locs) (hd : decode cc pc = .ok (.invokevirtual idx, 3)) (hA : ∀ q, fA 23 ad H.size q → A0 q) (hi : fI 23 ad) (hK : va_K (dC, dI) vwCl [(cI, .int), (cJ, .long)] s) (hP : va_P (dC, dI) vwCl (wC ad cI cJ Bc Bl Pk Pr Pl Pc Pm Gf Gt Gx Gd Gm Ek Er Ea Ex Em Eb Et Ss Sm Wg Wr Md) H) (a0 : Int32) (hs : S_X5_behind a0 Ex Et)  (u : Int32) (hu : u = f_X5_behind a0 Ex Et) (k : ∀ (H1 : Heap) (locs1 : List Loc), va_P (dC, dI) vwCl (wC ad cI cJ Bc Bl Pk Pr Pl Pc Pm Gf Gt Gx Gd Gm Ek Er Ea Ex Em Eb Et Ss Sm Wg Wr Md) H1 → va_S A0 s.heap H1 locs1 → (∀ q : Nat, q < H.size → ¬ fA 23 ad H.size q → H1[q]? = H[q]?) → H.size ≤ H1.size → W p l e R s m args below meth c H1 locs1 (cells + 0) (slots + 0) Q (F0 m (pc + 3) ls (.int u :: rest))) : W p l e R s m args below meth c H locs cells slots Q (F0 m pc ls (.int a0 :: .ref (ad 0) :: rest)) := by
  subst hu
  exact va_calli (va_runV (As := [.int a0]) (rest := rest) ⟨hx, hb, hml, hown, hts⟩ (c_X5_behind l dC dI cI cJ ad hi H.size Bc Bl Pk Pr Pl Pc Pm Gf Gt Gx Gd Gm Ek Er Ea Ex Em Eb Et Ss Sm Wg Wr Md a0 hs) (kV 1 hts hlk mI_X5_behind mN_RX5 mY_X5_behind mV_X5_behind rfl rfl (by decide +kernel) hR) ⟨fun a U g mk q => ⟨q.1, q.2.1, q.2.2.1, va_K.moved (u := U) (U := U.calling g mk a) (Vm.Alike.refl U.vm) q.2.2.2⟩, va_recv hK hP (ci := 7) (q0 := 0) rfl rfl, fun U hU hW => ⟨rfl, by rw [hU], by rw [hU]; exact hP, va_K.moved hW.alike hK⟩⟩ rfl rfl hz rfl (lv_room hw) hd hf) hS (fun q _ h => hA q h) (fun q h => hA q h) (fun r u t H1 locs1 ht hvm hw9 hB hz1 hk1 hS1 => by
    subst hw9
    exact k H1 locs1 (by rw [← ht]; exact hB) hS1 hk1 hz1)

def f_X5_inPoints (a0 : Int64) (a1 : Int64) (a2 : Int64) (a3 : Int64) : Int64 := (if (0 : Int64) < a3 then (((65536 : Int64) * ((a0 * a2) / a3)) + (((a2 * a1) + ((65536 : Int64) * ((a0 * a2) - (a0 * a2) / a3 * a3))) / a3)) else (0 : Int64))
def S_X5_inPoints (a0 : Int64) (a1 : Int64) (a2 : Int64) (a3 : Int64) : Prop := ((0 : Int64) < a3 → ((¬ a3 = 0) ∧ ((¬ a3 = 0) ∧ ((¬ a3 = 0) ∧ (True))))) ∧ (¬ (0 : Int64) < a3 → (True))
set_option maxHeartbeats 4000000 in
set_option maxRecDepth 100000 in
theorem c_X5_inPoints (l : Launch) (hp : Heap) (a0 : Int64) (a1 : Int64) (a2 : Int64) (a3 : Int64) (hs : S_X5_inPoints a0 a1 a2 a3) : Met l yX5_inPoints (mW yX5_inPoints cX5_inPoints 12 (some .long)) { frames := 0, cells := 0, slots := 0, locals := 0 } (va_Pc [.long a0, .long a1, .long a2, .long a3] (fun U => U.heap = hp)) (va_Ql (fun (r : Int64) (_ : Unit) => r = f_X5_inPoints a0 a1 a2 a3) (fun _ t => t.heap = hp) (fun q : Nat => hp.size ≤ q)) 0 0 (fun q : Nat => hp.size ≤ q) := by
  refine Met.ofW (cc := cX5_inPoints) (maxL := 12) (ret := (some .long)) (by decide) rfl ?_
  intro p e s m args below meth c s₁ B hml hv
  obtain ⟨rfl, hh⟩ := hv
  have hx := B.exec
  have hb := B.bytes
  have hr := B.returns
  have hts := mW_hts (atoms_spec (ws := (mW yX5_inPoints cX5_inPoints 12 (some .long))) B.pre)
  have hown : s.vm.findClass RX5 = some m.cls := findClass_of_methodNamed B.named
  have hlocks := B.notSynchronized
  subst hh
  have hA : ∀ (n : Nat) (q : Nat), s.heap.size ≤ n → n ≤ q → s.heap.size ≤ q := fun n q h1 h2 => Nat.le_trans h1 h2
  have hS : va_S ((fun q : Nat => s.heap.size ≤ q)) s.heap s.heap [] := va_S.rf
  have hA : ∀ q, s.heap.size ≤ q → ((fun q : Nat => s.heap.size ≤ q)) q := fun q h => h
  unfold S_X5_inPoints at hs
  have hl := lv_entry ([.long a0, .long a1, .long a2, .long a3]) (n := 12) (Nat.le_of_ble_eq_true rfl)
  rw [lg_entry_eq]
  generalize (lg_sl ([.long a0, .long a1, .long a2, .long a3]) ++ List.replicate (12 - (lg_sl ([.long a0, .long a1, .long a2, .long a3])).length) Slot.unset).toArray = ls at hl ⊢
  have hl : lv_has ls 12 [(0, .long a0), (2, .long a1), (4, .long a2), (6, .long a3)] := hl
  refine W_gen (fun Q9 hQ9 => ?_)
  refine lv_lload hx hb dX5_inPoints_0 (lv_at hl 3 rfl) ?_
  refine lv_lconst (v := 0) hx hb dX5_inPoints_2 (by decide) ?_
  refine W.lcmp hx hb dX5_inPoints_3 ?_
  refine lv_if_gt (tgt := 9) hx hb dX5_inPoints_4 (by decide) (fun c1 => ?_) (fun c1 => ?_)
  · have c1 : (0 : Int64) < a3 := lc_gt.mp c1
    have hs := hs.1 c1
    refine lv_lload_n hx hb dX5_inPoints_9 rfl (lv_at hl 0 rfl) ?_
    refine lv_lload hx hb dX5_inPoints_10 (lv_at hl 2 rfl) ?_
    refine lv_lmul hx hb dX5_inPoints_12 ?_
    refine lv_lload hx hb dX5_inPoints_13 (lv_at hl 3 rfl) ?_
    obtain ⟨h2, hs⟩ := hs
    refine lv_ldiv hx hb dX5_inPoints_15 h2 ?_
    refine lv_lstore (lv' := [(8, .long ((a0 * a2) / a3)), (0, .long a0), (2, .long a1), (4, .long a2), (6, .long a3)]) hx hb dX5_inPoints_16 hl (by decide) rfl (fun ls hl => ?_)
    refine lv_lload_n hx hb dX5_inPoints_18 rfl (lv_at hl 1 rfl) ?_
    refine lv_lload hx hb dX5_inPoints_19 (lv_at hl 3 rfl) ?_
    refine lv_lmul hx hb dX5_inPoints_21 ?_
    refine lv_lload hx hb dX5_inPoints_22 (lv_at hl 4 rfl) ?_
    obtain ⟨h3, hs⟩ := hs
    refine lv_lrem hx hb dX5_inPoints_24 h3 ?_
    refine lv_lstore (lv' := [(10, .long ((a0 * a2) - (a0 * a2) / a3 * a3)), (8, .long ((a0 * a2) / a3)), (0, .long a0), (2, .long a1), (4, .long a2), (6, .long a3)]) hx hb dX5_inPoints_25 hl (by decide) rfl (fun ls hl => ?_)
    refine lv_ldc2 hx hb hown (hts _ mK_RX5_299) dX5_inPoints_27 ?_
    refine lv_lload hx hb dX5_inPoints_30 (lv_at hl 1 rfl) ?_
    refine lv_lmul hx hb dX5_inPoints_32 ?_
    refine lv_lload hx hb dX5_inPoints_33 (lv_at hl 4 rfl) ?_
    refine lv_lload_n hx hb dX5_inPoints_35 rfl (lv_at hl 3 rfl) ?_
    refine lv_lmul hx hb dX5_inPoints_36 ?_
    refine lv_ldc2 hx hb hown (hts _ mK_RX5_299) dX5_inPoints_37 ?_
    refine lv_lload hx hb dX5_inPoints_40 (lv_at hl 0 rfl) ?_
    refine lv_lmul hx hb dX5_inPoints_42 ?_
    refine lv_ladd hx hb dX5_inPoints_43 ?_
    refine lv_lload hx hb dX5_inPoints_44 (lv_at hl 5 rfl) ?_
    obtain ⟨h4, hs⟩ := hs
    refine lv_ldiv hx hb dX5_inPoints_46 h4 ?_
    refine lv_ladd hx hb dX5_inPoints_47 ?_
    rw [hQ9]
    have hf : f_X5_inPoints a0 a1 a2 a3 = (((65536 : Int64) * ((a0 * a2) / a3)) + (((a2 * a1) + ((65536 : Int64) * ((a0 * a2) - (a0 * a2) / a3 * a3))) / a3)) := by simp only [f_X5_inPoints, if_pos c1]
    exact W.lret (v := (((65536 : Int64) * ((a0 * a2) / a3)) + (((a2 * a1) + ((65536 : Int64) * ((a0 * a2) - (a0 * a2) / a3 * a3))) / a3))) hx hb hr (fun t ht hW => ⟨⟨(((65536 : Int64) * ((a0 * a2) / a3)) + (((a2 * a1) + ((65536 : Int64) * ((a0 * a2) - (a0 * a2) / a3 * a3))) / a3)), (), rfl, by rw [hf], ht⟩, hS.F ht⟩) hS.2.2 dX5_inPoints_48
  · have c1 : ¬ (0 : Int64) < a3 := fun z => c1 (lc_gt.mpr z)
    have hs := hs.2 c1
    refine lv_lconst (v := 0) hx hb dX5_inPoints_7 (by decide) ?_
    rw [hQ9]
    have hf : f_X5_inPoints a0 a1 a2 a3 = (0 : Int64) := by simp only [f_X5_inPoints, if_neg c1]
    exact W.lret (v := (0 : Int64)) hx hb hr (fun t ht hW => ⟨⟨(0 : Int64), (), rfl, by rw [hf], ht⟩, hS.F ht⟩) hS.2.2 dX5_inPoints_8
theorem q_X5_inPoints {p : Program} {l : Launch} {e : Env} {R : Room} {s : State} {m : MethodId} {args : Array Value} {below : List Frame} {meth : Method} {c : Code} {H : Heap} {locs : List Loc} {cells slots : Nat} {Q : State → Prop} {pc : Nat} {ls : Array Slot} {rest : List Value} {cc : ByteArray} {nL idx : Nat} {own : String} {A0 : Nat → Prop} (hx : p.tables.exec = Jvm.exec) (hb : c.code = cc) (hml : c.maxLocals = nL) (hown : s.vm.findClass own = some m.cls) (hts : ∀ w ∈ bigW, w.before args s = true) (hlk : Cond.methodLink own idx yX5_inPoints ∈ bigW) (hR : 1 ≤ R.frames ∧ 31 ≤ R.locals) (hf : cells + 0 ≤ R.cells ∧ slots + 0 ≤ R.slots) (hz : ls.size = nL) (hw : (rest.map fun v => v.category).sum ≤ 8) (hS : va_S A0 s.heap H locs) (hd : decode cc pc = .ok (.invokestatic idx, 3)) (hA : ∀ q, s.heap.size ≤ q → A0 q) (a0 : Int64) (a1 : Int64) (a2 : Int64) (a3 : Int64) (hs : S_X5_inPoints a0 a1 a2 a3) (k : ∀ locs, va_S A0 s.heap H locs → W p l e R s m args below meth c H locs cells slots Q (F0 m (pc + 3) ls (.long (f_X5_inPoints a0 a1 a2 a3) :: rest))) : W p l e R s m args below meth c H locs cells slots Q (F0 m pc ls (.long a3 :: .long a2 :: .long a1 :: .long a0 :: rest)) :=
  va_calll (va_runS (As := [.long a0, .long a1, .long a2, .long a3]) (rest := rest) ⟨hx, hb, hml, hown, hts⟩ (c_X5_inPoints l H a0 a1 a2 a3 hs) (kS 4 hts hlk mS_X5_inPoints mN_RX5 mY_X5_inPoints rfl rfl (by decide +kernel) hR) ⟨fun a U g mk q => q, fun U hU hW => ⟨rfl, hU⟩⟩ rfl rfl hz rfl (lv_room hw) hd hf) hS (fun q h1 h2 => absurd h1 (Nat.not_lt.mpr h2)) (fun q h => hA q (Nat.le_trans hS.1 h)) (fun r u t H1 locs1 ht hvm hw9 hB hz1 hk1 hS1 => by
    have e : H1 = H := by rw [← ht]; exact hB
    subst e; subst hw9
    exact k locs1 hS1)

def f_X5_scaled (a0 : Int32) (a1 : Int32) (a2 : Int32) : Nat × Int64 := (if (f_X5_within a0.toInt64 (0 : Int64) (1073741823 : Int64)) = 0 then (1, 0) else (if (f_X5_within a2.toInt64 (0 : Int64) (8 : Int64)) = 0 then (1, 0) else (if a2 = (8 : Int32) then (0, a0.toInt64) else (if (f_X5_within a1.toInt64 (0 : Int64) (65535 : Int64)) = 0 then (1, 0) else (if (f_X5_inPoints a0.toInt64 a1.toInt64 (gNUMS a2) (gDENS a2)) ≤ (1073741823 : Int64) then (0, (f_X5_inPoints a0.toInt64 a1.toInt64 (gNUMS a2) (gDENS a2))) else (0, (-1 : Int64)))))))
def S_X5_scaled (a0 : Int32) (a1 : Int32) (a2 : Int32) : Prop := ((f_X5_within a0.toInt64 (0 : Int64) (1073741823 : Int64)) = 0 → (True)) ∧ (¬ (f_X5_within a0.toInt64 (0 : Int64) (1073741823 : Int64)) = 0 → (((f_X5_within a2.toInt64 (0 : Int64) (8 : Int64)) = 0 → (True)) ∧ (¬ (f_X5_within a2.toInt64 (0 : Int64) (8 : Int64)) = 0 → ((a2 = (8 : Int32) → (True)) ∧ (¬ a2 = (8 : Int32) → (((f_X5_within a1.toInt64 (0 : Int64) (65535 : Int64)) = 0 → (True)) ∧ (¬ (f_X5_within a1.toInt64 (0 : Int64) (65535 : Int64)) = 0 → ((vp_in a2 8) ∧ ((vp_in a2 8) ∧ ((S_X5_inPoints a0.toInt64 a1.toInt64 (gNUMS a2) (gDENS a2)) ∧ (((f_X5_inPoints a0.toInt64 a1.toInt64 (gNUMS a2) (gDENS a2)) ≤ (1073741823 : Int64) → (True)) ∧ (¬ (f_X5_inPoints a0.toInt64 a1.toInt64 (gNUMS a2) (gDENS a2)) ≤ (1073741823 : Int64) → (True)))))))))))))
set_option maxHeartbeats 4000000 in
set_option maxRecDepth 100000 in
theorem c_X5_scaled (l : Launch) (hst : l.stackTraces = false) (dC : Nat → ClassId) (dI : Nat → Nat → Nat) (cI cJ : ClassId) (ad : Nat → Nat) (hi : fI 23 ad) (sz : Nat) (Bc : Nat → Int64) (Bl : Nat → Int32) (Pk : Nat → Int32) (Pr : Nat → Int32) (Pl : Nat → Int32) (Pc : Nat → Int64) (Pm : Int32) (Gf : Nat → Int32) (Gt : Nat → Int32) (Gx : Nat → Int32) (Gd : Int32) (Gm : Int32) (Ek : Nat → Int32) (Er : Nat → Int32) (Ea : Nat → Int32) (Ex : Nat → Int32) (Em : Int32) (Eb : Int32) (Et : Int32) (Ss : Nat → Int32) (Sm : Int32) (Wg : Nat → Int64) (Wr : Nat → Int64) (Md : Nat → Int64) (a0 : Int32) (a1 : Int32) (a2 : Int32) (hs : S_X5_scaled a0 a1 a2) : vx_Met l yX5_scaled (mW yX5_scaled cX5_scaled 6 (some .long)) { frames := 6, cells := 1, slots := 6, locals := 92 } (va_Pc [.ref (ad 0), .int a0, .int a1, .int a2] (fun U => U.heap.size = sz ∧ va_P (dC, dI) vwCl (wC ad cI cJ Bc Bl Pk Pr Pl Pc Pm Gf Gt Gx Gd Gm Ek Er Ea Ex Em Eb Et Ss Sm Wg Wr Md) U.heap ∧ va_K (dC, dI) vwCl [(cI, .int), (cJ, .long)] U ∧ cxt (fA 23 ad sz) U U.heap)) (va_Ql (fun (r : Int64) (_ : Unit) => (f_X5_scaled a0 a1 a2).1 = 0 ∧ r = (f_X5_scaled a0 a1 a2).2) (fun _ t => va_P (dC, dI) vwCl (wC ad cI cJ Bc Bl Pk Pr Pl Pc Pm Gf Gt Gx Gd Gm Ek Er Ea Ex Em Eb Et Ss Sm Wg Wr Md) t.heap) (fA 23 ad sz)) (vx_X (fun _ : Unit => ¬ (f_X5_scaled a0 a1 a2).1 = 0) (fun E _ t => E = exN ((f_X5_scaled a0 a1 a2).1) ∧ va_P (dC, dI) vwCl (wC ad cI cJ Bc Bl Pk Pr Pl Pc Pm Gf Gt Gx Gd Gm Ek Er Ea Ex Em Eb Et Ss Sm Wg Wr Md) t.heap) (fA 23 ad sz)) 1 6 (fA 23 ad sz) := by
  refine vx_ofW (cc := cX5_scaled) (maxL := 6) (ret := (some .long)) (by decide) rfl ?_
  intro p e s m args below meth c s₁ B hml ht hv
  obtain ⟨rfl, hsz, hP, hK, hC⟩ := hv
  have hx := B.exec
  have hb := B.bytes
  have hr := B.returns
  have hts := mW_hts (atoms_spec (ws := (mW yX5_scaled cX5_scaled 6 (some .long))) B.pre)
  have hown : s.vm.findClass RX5 = some m.cls := findClass_of_methodNamed B.named
  have hlocks := B.notSynchronized
  subst hsz
  have hA : ∀ (n : Nat) (q : Nat), s.heap.size ≤ n → n ≤ q → fA 23 ad s.heap.size q := fun n q h1 h2 => Or.inr (Nat.le_trans h1 h2)
  have hS : va_S (fA 23 ad s.heap.size) s.heap s.heap [] := va_S.rf
  have hA : ∀ q, s.heap.size ≤ q → (fA 23 ad s.heap.size) q := fun q h => Or.inr h
  unfold S_X5_scaled at hs
  have hl := lv_entry ([.ref (ad 0), .int a0, .int a1, .int a2]) (n := 6) (Nat.le_of_ble_eq_true rfl)
  rw [lg_entry_eq]
  generalize (lg_sl ([.ref (ad 0), .int a0, .int a1, .int a2]) ++ List.replicate (6 - (lg_sl ([.ref (ad 0), .int a0, .int a1, .int a2])).length) Slot.unset).toArray = ls at hl ⊢
  have hl : lv_has ls 6 [(0, .ref (ad 0)), (1, .int a0), (2, .int a1), (3, .int a2)] := hl
  refine W_gen (fun Q9 hQ9 => ?_)
  refine lv_iload_n hx hb dX5_scaled_0 rfl (lv_at hl 1 rfl) ?_
  refine lv_i2l hx hb dX5_scaled_1 rfl ?_
  refine lv_lconst (v := 0) hx hb dX5_scaled_2 (by decide) ?_
  refine lv_ldc2 hx hb hown (hts _ mK_RX5_204) dX5_scaled_3 ?_
  refine q_X5_within hx hb hml hown hts mM_RX5_71 ⟨Nat.le_of_ble_eq_true rfl, Nat.le_of_ble_eq_true rfl⟩ ⟨Nat.le_of_ble_eq_true rfl, Nat.le_of_ble_eq_true rfl⟩ hl.1 (Nat.le_of_ble_eq_true rfl) hS dX5_scaled_6 hA a0.toInt64 (0 : Int64) (1073741823 : Int64) (fun locs hS => ?_)
  refine lv_if_eq (tgt := 24) hx hb dX5_scaled_9 (by decide) (fun c1 => ?_) (fun c1 => ?_)
  · have hs := hs.1 c1
    rw [hQ9]
    have hf : f_X5_scaled a0 a1 a2 = (1, 0) := by simp only [f_X5_scaled, if_pos c1]
    obtain ⟨sa2, hsa2⟩ := hC.str 14 _ rfl
    refine vx_throwS (mc := 1) (ms := 6) (ik := 62) (ic := 66) (is := 208) (own := RX5) (cls := x_IAE) (text := "no such number of points, or no such UNIT") (names := x_nam) hx hb hst hown (by decide) nm_x (hts _ mC_RX5_62) (hts _ mN_IllegalArgumentException) hsa2 (xw_IAE hts hC) xg_IAE hC.1 hC.2.1 hS (by rw [hml]; exact hl.1) dX5_scaled_24 dX5_scaled_27 dX5_scaled_28 dX5_scaled_30 dX5_scaled_33 (fun x hx => (ht x hx).elim) (Nat.le_of_ble_eq_true rfl) (Nat.le_of_ble_eq_true rfl) (Nat.le_of_ble_eq_true rfl) (Nat.le_of_ble_eq_true rfl) hlocks (fun t hv hz hk => ⟨(), by rw [hf]; exact (by decide : ¬ (1 : Nat) = 0), ⟨by rw [hf]; rfl, by exact hP.kept (fun k z hkz => hk z.1 (hP k z hkz).lt)⟩, ⟨Nat.le_trans hS.1 hz, fun q h1 h2 => (hk q (Nat.lt_of_lt_of_le h1 hS.1)).trans (hS.2.1 q h1 h2)⟩⟩) hS.2.2 (Nat.le_of_ble_eq_true rfl) (Nat.le_of_ble_eq_true rfl)
  · have hs := hs.2 c1
    refine lv_iload_n hx hb dX5_scaled_12 rfl (lv_at hl 3 rfl) ?_
    refine lv_i2l hx hb dX5_scaled_13 rfl ?_
    refine lv_lconst (v := 0) hx hb dX5_scaled_14 (by decide) ?_
    refine lv_ldc2 hx hb hown (hts _ mK_RX5_206) dX5_scaled_15 ?_
    refine q_X5_within hx hb hml hown hts mM_RX5_71 ⟨Nat.le_of_ble_eq_true rfl, Nat.le_of_ble_eq_true rfl⟩ ⟨Nat.le_of_ble_eq_true rfl, Nat.le_of_ble_eq_true rfl⟩ hl.1 (Nat.le_of_ble_eq_true rfl) hS dX5_scaled_18 hA a2.toInt64 (0 : Int64) (8 : Int64) (fun locs hS => ?_)
    refine lv_if_ne (tgt := 34) hx hb dX5_scaled_21 (by decide) (fun c3 => ?_) (fun c3 => ?_)
    · have hs := hs.2 c3
      refine lv_iload_n hx hb dX5_scaled_34 rfl (lv_at hl 3 rfl) ?_
      refine lv_bipush (v := 8) hx hb dX5_scaled_35 (by decide) ?_
      refine lv_icmp_ne (tgt := 43) hx hb dX5_scaled_37 (by decide) (fun c4 => ?_) (fun c4 => ?_)
      · have hs := hs.2 c4
        refine lv_iload_n hx hb dX5_scaled_43 rfl (lv_at hl 2 rfl) ?_
        refine lv_i2l hx hb dX5_scaled_44 rfl ?_
        refine lv_lconst (v := 0) hx hb dX5_scaled_45 (by decide) ?_
        refine lv_ldc2 hx hb hown (hts _ mK_RX5_210) dX5_scaled_46 ?_
        refine q_X5_within hx hb hml hown hts mM_RX5_71 ⟨Nat.le_of_ble_eq_true rfl, Nat.le_of_ble_eq_true rfl⟩ ⟨Nat.le_of_ble_eq_true rfl, Nat.le_of_ble_eq_true rfl⟩ hl.1 (Nat.le_of_ble_eq_true rfl) hS dX5_scaled_49 hA a1.toInt64 (0 : Int64) (65535 : Int64) (fun locs hS => ?_)
        refine lv_if_ne (tgt := 65) hx hb dX5_scaled_52 (by decide) (fun c5 => ?_) (fun c5 => ?_)
        · have hs := hs.2 c5
          refine lv_iload_n hx hb dX5_scaled_65 rfl (lv_at hl 1 rfl) ?_
          refine lv_i2l hx hb dX5_scaled_66 rfl ?_
          refine lv_iload_n hx hb dX5_scaled_67 rfl (lv_at hl 2 rfl) ?_
          refine lv_i2l hx hb dX5_scaled_68 rfl ?_
          obtain ⟨t6, hZt6, hTt6⟩ := hC.2.2.2.2.1
          refine va_gets hx hb hZt6 hS hown (hts _ mF_RX5_214) (fun _ h9 => h9) dX5_scaled_69 ?_
          refine lv_iload_n hx hb dX5_scaled_72 rfl (lv_at hl 3 rfl) ?_
          obtain ⟨h7, hs⟩ := hs
          refine va_tl hx hb hTt6 hS h7 (v := .long (gNUMS a2)) rfl dX5_scaled_73 ?_
          obtain ⟨t8, hZt8, hTt8⟩ := hC.2.2.2.2.2.1
          refine va_gets hx hb hZt8 hS hown (hts _ mF_RX5_217) (fun _ h9 => h9) dX5_scaled_74 ?_
          refine lv_iload_n hx hb dX5_scaled_77 rfl (lv_at hl 3 rfl) ?_
          obtain ⟨h9, hs⟩ := hs
          refine va_tl hx hb hTt8 hS h9 (v := .long (gDENS a2)) rfl dX5_scaled_78 ?_
          obtain ⟨h10, hs⟩ := hs
          refine q_X5_inPoints hx hb hml hown hts mM_RX5_220 ⟨Nat.le_of_ble_eq_true rfl, Nat.le_of_ble_eq_true rfl⟩ ⟨Nat.le_of_ble_eq_true rfl, Nat.le_of_ble_eq_true rfl⟩ hl.1 (Nat.le_of_ble_eq_true rfl) hS dX5_scaled_79 hA a0.toInt64 a1.toInt64 (gNUMS a2) (gDENS a2) h10 (fun locs hS => ?_)
          refine lv_lstore (lv' := [(4, .long (f_X5_inPoints a0.toInt64 a1.toInt64 (gNUMS a2) (gDENS a2))), (0, .ref (ad 0)), (1, .int a0), (2, .int a1), (3, .int a2)]) hx hb dX5_scaled_82 hl (by decide) rfl (fun ls hl => ?_)
          refine lv_lload hx hb dX5_scaled_84 (lv_at hl 0 rfl) ?_
          refine lv_ldc2 hx hb hown (hts _ mK_RX5_204) dX5_scaled_86 ?_
          refine W.lcmp hx hb dX5_scaled_89 ?_
          refine lv_if_le (tgt := 99) hx hb dX5_scaled_90 (by decide) (fun c11 => ?_) (fun c11 => ?_)
          · have c11 : (f_X5_inPoints a0.toInt64 a1.toInt64 (gNUMS a2) (gDENS a2)) ≤ (1073741823 : Int64) := lc_le.mp c11
            have hs := hs.1 c11
            refine lv_lload hx hb dX5_scaled_99 (lv_at hl 0 rfl) ?_
            rw [hQ9]
            have hf : f_X5_scaled a0 a1 a2 = (0, (f_X5_inPoints a0.toInt64 a1.toInt64 (gNUMS a2) (gDENS a2))) := by simp only [f_X5_scaled, if_neg c1, if_neg c3, if_neg c4, if_neg c5, if_pos c11]
            refine vx_ret ?_
            refine W.widen (k := 1) (n := 6) (Nat.le_of_ble_eq_true rfl) (Nat.le_of_ble_eq_true rfl) ?_
            exact W.lret (v := (f_X5_inPoints a0.toInt64 a1.toInt64 (gNUMS a2) (gDENS a2))) hx hb hr (fun t ht hW => ⟨⟨(f_X5_inPoints a0.toInt64 a1.toInt64 (gNUMS a2) (gDENS a2)), (), rfl, ⟨by rw [hf], by rw [hf]⟩, by show va_P (dC, dI) vwCl _ t.heap; rw [ht]; exact hP⟩, hS.F ht⟩) hS.2.2 dX5_scaled_101
          · have c11 : ¬ (f_X5_inPoints a0.toInt64 a1.toInt64 (gNUMS a2) (gDENS a2)) ≤ (1073741823 : Int64) := fun z => c11 (lc_le.mpr z)
            have hs := hs.2 c11
            refine lv_ldc2 hx hb hown (hts _ mK_RX5_81) dX5_scaled_93 ?_
            refine lv_goto (tgt := 101) hx hb dX5_scaled_96 (by decide) ?_
            rw [hQ9]
            have hf : f_X5_scaled a0 a1 a2 = (0, (-1 : Int64)) := by simp only [f_X5_scaled, if_neg c1, if_neg c3, if_neg c4, if_neg c5, if_neg c11]
            refine vx_ret ?_
            refine W.widen (k := 1) (n := 6) (Nat.le_of_ble_eq_true rfl) (Nat.le_of_ble_eq_true rfl) ?_
            exact W.lret (v := (-1 : Int64)) hx hb hr (fun t ht hW => ⟨⟨(-1 : Int64), (), rfl, ⟨by rw [hf], by rw [hf]⟩, by show va_P (dC, dI) vwCl _ t.heap; rw [ht]; exact hP⟩, hS.F ht⟩) hS.2.2 dX5_scaled_101
        · have hs := hs.1 c5
          rw [hQ9]
          have hf : f_X5_scaled a0 a1 a2 = (1, 0) := by simp only [f_X5_scaled, if_neg c1, if_neg c3, if_neg c4, if_pos c5]
          obtain ⟨sa12, hsa12⟩ := hC.str 15 _ rfl
          refine vx_throwS (mc := 1) (ms := 6) (ik := 62) (ic := 66) (is := 212) (own := RX5) (cls := x_IAE) (text := "no such number of 65536ths") (names := x_nam) hx hb hst hown (by decide) nm_x (hts _ mC_RX5_62) (hts _ mN_IllegalArgumentException) hsa12 (xw_IAE hts hC) xg_IAE hC.1 hC.2.1 hS (by rw [hml]; exact hl.1) dX5_scaled_55 dX5_scaled_58 dX5_scaled_59 dX5_scaled_61 dX5_scaled_64 (fun x hx => (ht x hx).elim) (Nat.le_of_ble_eq_true rfl) (Nat.le_of_ble_eq_true rfl) (Nat.le_of_ble_eq_true rfl) (Nat.le_of_ble_eq_true rfl) hlocks (fun t hv hz hk => ⟨(), by rw [hf]; exact (by decide : ¬ (1 : Nat) = 0), ⟨by rw [hf]; rfl, by exact hP.kept (fun k z hkz => hk z.1 (hP k z hkz).lt)⟩, ⟨Nat.le_trans hS.1 hz, fun q h1 h2 => (hk q (Nat.lt_of_lt_of_le h1 hS.1)).trans (hS.2.1 q h1 h2)⟩⟩) hS.2.2 (Nat.le_of_ble_eq_true rfl) (Nat.le_of_ble_eq_true rfl)
      · have hs := hs.1 c4
        refine lv_iload_n hx hb dX5_scaled_40 rfl (lv_at hl 1 rfl) ?_
        refine lv_i2l hx hb dX5_scaled_41 rfl ?_
        rw [hQ9]
        have hf : f_X5_scaled a0 a1 a2 = (0, a0.toInt64) := by simp only [f_X5_scaled, if_neg c1, if_neg c3, if_pos c4]
        refine vx_ret ?_
        refine W.widen (k := 1) (n := 6) (Nat.le_of_ble_eq_true rfl) (Nat.le_of_ble_eq_true rfl) ?_
        exact W.lret (v := a0.toInt64) hx hb hr (fun t ht hW => ⟨⟨a0.toInt64, (), rfl, ⟨by rw [hf], by rw [hf]⟩, by show va_P (dC, dI) vwCl _ t.heap; rw [ht]; exact hP⟩, hS.F ht⟩) hS.2.2 dX5_scaled_42
    · have hs := hs.1 c3
      rw [hQ9]
      have hf : f_X5_scaled a0 a1 a2 = (1, 0) := by simp only [f_X5_scaled, if_neg c1, if_pos c3]
      obtain ⟨sa13, hsa13⟩ := hC.str 14 _ rfl
      refine vx_throwS (mc := 1) (ms := 6) (ik := 62) (ic := 66) (is := 208) (own := RX5) (cls := x_IAE) (text := "no such number of points, or no such UNIT") (names := x_nam) hx hb hst hown (by decide) nm_x (hts _ mC_RX5_62) (hts _ mN_IllegalArgumentException) hsa13 (xw_IAE hts hC) xg_IAE hC.1 hC.2.1 hS (by rw [hml]; exact hl.1) dX5_scaled_24 dX5_scaled_27 dX5_scaled_28 dX5_scaled_30 dX5_scaled_33 (fun x hx => (ht x hx).elim) (Nat.le_of_ble_eq_true rfl) (Nat.le_of_ble_eq_true rfl) (Nat.le_of_ble_eq_true rfl) (Nat.le_of_ble_eq_true rfl) hlocks (fun t hv hz hk => ⟨(), by rw [hf]; exact (by decide : ¬ (1 : Nat) = 0), ⟨by rw [hf]; rfl, by exact hP.kept (fun k z hkz => hk z.1 (hP k z hkz).lt)⟩, ⟨Nat.le_trans hS.1 hz, fun q h1 h2 => (hk q (Nat.lt_of_lt_of_le h1 hS.1)).trans (hS.2.1 q h1 h2)⟩⟩) hS.2.2 (Nat.le_of_ble_eq_true rfl) (Nat.le_of_ble_eq_true rfl)
theorem q_X5_scaled {p : Program} {l : Launch} {e : Env} {R : Room} {s : State} {m : MethodId} {args : Array Value} {below : List Frame} {meth : Method} {c : Code} {H : Heap} {locs : List Loc} {cells slots : Nat} {Q : State → Prop} {pc : Nat} {ls : Array Slot} {rest : List Value} {cc : ByteArray} {nL idx : Nat} {own : String} {A0 : Nat → Prop} {dC : Nat → ClassId} {dI : Nat → Nat → Nat} {cI cJ : ClassId} {ad : Nat → Nat} {Bc : Nat → Int64} {Bl : Nat → Int32} {Pk : Nat → Int32} {Pr : Nat → Int32} {Pl : Nat → Int32} {Pc : Nat → Int64} {Pm : Int32} {Gf : Nat → Int32} {Gt : Nat → Int32} {Gx : Nat → Int32} {Gd : Int32} {Gm : Int32} {Ek : Nat → Int32} {Er : Nat → Int32} {Ea : Nat → Int32} {Ex : Nat → Int32} {Em : Int32} {Eb : Int32} {Et : Int32} {Ss : Nat → Int32} {Sm : Int32} {Wg : Nat → Int64} {Wr : Nat → Int64} {Md : Nat → Int64} (hst : l.stackTraces = false) (hx : p.tables.exec = Jvm.exec) (hb : c.code = cc) (hml : c.maxLocals = nL) (hown : s.vm.findClass own = some m.cls) (hts : ∀ w ∈ bigW, w.before args s = true) (hlk : Cond.methodLink own idx yX5_scaled ∈ bigW) (hR : 7 ≤ R.frames ∧ 117 ≤ R.locals) (hf : cells + 1 ≤ R.cells ∧ slots + 6 ≤ R.slots) (hz : ls.size = nL) (hw : (rest.map fun v => v.category).sum ≤ 8) (hS : va_S A0 s.heap H locs) (hd : decode cc pc = .ok (.invokevirtual idx, 3)) (hA : ∀ q, fA 23 ad H.size q → A0 q) (hi : fI 23 ad) (hK : va_K (dC, dI) vwCl [(cI, .int), (cJ, .long)] s) (hP : va_P (dC, dI) vwCl (wC ad cI cJ Bc Bl Pk Pr Pl Pc Pm Gf Gt Gx Gd Gm Ek Er Ea Ex Em Eb Et Ss Sm Wg Wr Md) H) (hC : cxt A0 s s.heap) (a0 : Int32) (a1 : Int32) (a2 : Int32) (hs : S_X5_scaled a0 a1 a2)  (u : Nat × Int64) (hu : u = f_X5_scaled a0 a1 a2) (kx : ∀ {E : String} (hE : E = exN u.1) (ho : ¬ u.1 = 0) (H1 : Heap) (locs1 : List Loc), va_P (dC, dI) vwCl (wC ad cI cJ Bc Bl Pk Pr Pl Pc Pm Gf Gt Gx Gd Gm Ek Er Ea Ex Em Eb Et Ss Sm Wg Wr Md) H1 → va_S A0 s.heap H1 locs1 → ∀ (ce : Cell) (q9 : Addr), H1[q9]? = some ce → ce.vm = .none → s.vm.findClass E = some ce.cls → vx_W p l e R s m args below meth c H1 locs1 (cells + 1) (slots + 6) Q (F0 m pc ls rest) q9) (k : u.1 = 0 → ∀ (H1 : Heap) (locs1 : List Loc), va_P (dC, dI) vwCl (wC ad cI cJ Bc Bl Pk Pr Pl Pc Pm Gf Gt Gx Gd Gm Ek Er Ea Ex Em Eb Et Ss Sm Wg Wr Md) H1 → va_S A0 s.heap H1 locs1 → W p l e R s m args below meth c H1 locs1 (cells + 1) (slots + 6) Q (F0 m (pc + 3) ls (.long u.2 :: rest))) : W p l e R s m args below meth c H locs cells slots Q (F0 m pc ls (.int a2 :: .int a1 :: .int a0 :: .ref (ad 0) :: rest)) := by
  subst hu
  exact vx_calll (vx_runV (As := [.int a0, .int a1, .int a2]) (rest := rest) ⟨hx, hb, hml, hown, hts⟩ (c_X5_scaled l hst dC dI cI cJ ad hi H.size Bc Bl Pk Pr Pl Pc Pm Gf Gt Gx Gd Gm Ek Er Ea Ex Em Eb Et Ss Sm Wg Wr Md a0 a1 a2 hs) (kV 3 hts hlk mI_X5_scaled mN_RX5 mY_X5_scaled mV_X5_scaled rfl rfl (by decide +kernel) hR) ⟨fun a U g mk q => ⟨q.1, q.2.1, q.2.2.1, va_K.moved (u := U) (U := U.calling g mk a) (Vm.Alike.refl U.vm) q.2.2.2.1, q.2.2.2.2.call⟩, va_recv hK hP (ci := 7) (q0 := 0) rfl rfl, fun U hU hW => ⟨rfl, by rw [hU], by rw [hU]; exact hP, va_K.moved hW.alike hK, hC.here hS hU hW hA⟩⟩ rfl rfl hz rfl (lv_room hw) hd hf) hS (fun q _ h => hA q h) (fun q h => hA q h) (fun q _ h => hA q h) (fun E ce q9 u t H1 locs1 ht hvm hw9 hB hz1 hk1 hS1 h1 h2 h3 => kx hB.1 hw9 H1 locs1 (by rw [← ht]; exact hB.2) hS1 ce q9 h1 h2 h3) (fun r u t H1 locs1 ht hvm hw9 hB hz1 hk1 hS1 => by
    obtain ⟨e1, rfl⟩ := hw9
    exact k e1 H1 locs1 (by rw [← ht]; exact hB) hS1)
theorem qf_X5_scaled {p : Program} {l : Launch} {e : Env} {R : Room} {s : State} {m : MethodId} {args : Array Value} {below : List Frame} {meth : Method} {c : Code} {H : Heap} {locs : List Loc} {cells slots : Nat} {Q : State → Prop} {pc : Nat} {ls : Array Slot} {rest : List Value} {cc : ByteArray} {nL idx : Nat} {own : String} {A0 : Nat → Prop} {dC : Nat → ClassId} {dI : Nat → Nat → Nat} {cI cJ : ClassId} {ad : Nat → Nat} {Bc : Nat → Int64} {Bl : Nat → Int32} {Pk : Nat → Int32} {Pr : Nat → Int32} {Pl : Nat → Int32} {Pc : Nat → Int64} {Pm : Int32} {Gf : Nat → Int32} {Gt : Nat → Int32} {Gx : Nat → Int32} {Gd : Int32} {Gm : Int32} {Ek : Nat → Int32} {Er : Nat → Int32} {Ea : Nat → Int32} {Ex : Nat → Int32} {Em : Int32} {Eb : Int32} {Et : Int32} {Ss : Nat → Int32} {Sm : Int32} {Wg : Nat → Int64} {Wr : Nat → Int64} {Md : Nat → Int64} (hst : l.stackTraces = false) (hx : p.tables.exec = Jvm.exec) (hb : c.code = cc) (hml : c.maxLocals = nL) (hown : s.vm.findClass own = some m.cls) (hts : ∀ w ∈ bigW, w.before args s = true) (hlk : Cond.methodLink own idx yX5_scaled ∈ bigW) (hR : 7 ≤ R.frames ∧ 117 ≤ R.locals) (hf : cells + 1 ≤ R.cells ∧ slots + 6 ≤ R.slots) (hz : ls.size = nL) (hw : (rest.map fun v => v.category).sum ≤ 8) (hS : va_S A0 s.heap H locs) (hd : decode cc pc = .ok (.invokevirtual idx, 3)) (hA : ∀ q, fA 23 ad H.size q → A0 q) (hi : fI 23 ad) (hK : va_K (dC, dI) vwCl [(cI, .int), (cJ, .long)] s) (hP : va_P (dC, dI) vwCl (wC ad cI cJ Bc Bl Pk Pr Pl Pc Pm Gf Gt Gx Gd Gm Ek Er Ea Ex Em Eb Et Ss Sm Wg Wr Md) H) (hC : cxt A0 s s.heap) (a0 : Int32) (a1 : Int32) (a2 : Int32) (hs : S_X5_scaled a0 a1 a2)  (u : Nat × Int64) (hu : u = f_X5_scaled a0 a1 a2) (kx : ∀ {E : String} (hE : E = exN u.1) (ho : ¬ u.1 = 0) (H1 : Heap) (locs1 : List Loc), va_P (dC, dI) vwCl (wC ad cI cJ Bc Bl Pk Pr Pl Pc Pm Gf Gt Gx Gd Gm Ek Er Ea Ex Em Eb Et Ss Sm Wg Wr Md) H1 → va_S A0 s.heap H1 locs1 → (∀ q : Nat, q < H.size → ¬ fA 23 ad H.size q → H1[q]? = H[q]?) → H.size ≤ H1.size → ∀ (ce : Cell) (q9 : Addr), H1[q9]? = some ce → ce.vm = .none → s.vm.findClass E = some ce.cls → vx_W p l e R s m args below meth c H1 locs1 (cells + 1) (slots + 6) Q (F0 m pc ls rest) q9) (k : u.1 = 0 → ∀ (H1 : Heap) (locs1 : List Loc), va_P (dC, dI) vwCl (wC ad cI cJ Bc Bl Pk Pr Pl Pc Pm Gf Gt Gx Gd Gm Ek Er Ea Ex Em Eb Et Ss Sm Wg Wr Md) H1 → va_S A0 s.heap H1 locs1 → (∀ q : Nat, q < H.size → ¬ fA 23 ad H.size q → H1[q]? = H[q]?) → H.size ≤ H1.size → W p l e R s m args below meth c H1 locs1 (cells + 1) (slots + 6) Q (F0 m (pc + 3) ls (.long u.2 :: rest))) : W p l e R s m args below meth c H locs cells slots Q (F0 m pc ls (.int a2 :: .int a1 :: .int a0 :: .ref (ad 0) :: rest)) := by
  subst hu
  exact vx_calll (vx_runV (As := [.int a0, .int a1, .int a2]) (rest := rest) ⟨hx, hb, hml, hown, hts⟩ (c_X5_scaled l hst dC dI cI cJ ad hi H.size Bc Bl Pk Pr Pl Pc Pm Gf Gt Gx Gd Gm Ek Er Ea Ex Em Eb Et Ss Sm Wg Wr Md a0 a1 a2 hs) (kV 3 hts hlk mI_X5_scaled mN_RX5 mY_X5_scaled mV_X5_scaled rfl rfl (by decide +kernel) hR) ⟨fun a U g mk q => ⟨q.1, q.2.1, q.2.2.1, va_K.moved (u := U) (U := U.calling g mk a) (Vm.Alike.refl U.vm) q.2.2.2.1, q.2.2.2.2.call⟩, va_recv hK hP (ci := 7) (q0 := 0) rfl rfl, fun U hU hW => ⟨rfl, by rw [hU], by rw [hU]; exact hP, va_K.moved hW.alike hK, hC.here hS hU hW hA⟩⟩ rfl rfl hz rfl (lv_room hw) hd hf) hS (fun q _ h => hA q h) (fun q h => hA q h) (fun q _ h => hA q h) (fun E ce q9 u t H1 locs1 ht hvm hw9 hB hz1 hk1 hS1 h1 h2 h3 => kx hB.1 hw9 H1 locs1 (by rw [← ht]; exact hB.2) hS1 hk1 hz1 ce q9 h1 h2 h3) (fun r u t H1 locs1 ht hvm hw9 hB hz1 hk1 hS1 => by
    obtain ⟨e1, rfl⟩ := hw9
    exact k e1 H1 locs1 (by rw [← ht]; exact hB) hS1 hk1 hz1)

def L_X5_fraction_34 : Nat → Int32 → Int64 → Int32 → Int32 → Int32 × Int64 × Int32
  | 0, x3, x4, x6, x2 => (x3, x4, x6)
  | n + 1, x3, x4, x6, x2 => (if x2 ≤ x6 then (x3, x4, x6) else L_X5_fraction_34 n (x3 / (10 : Int32)) ((x4 + ((131072 : Int64) * (x3 - x3 / (10 : Int32) * (10 : Int32)).toInt64)) / (10 : Int64)) (x6 + 1) x2)
def SL_X5_fraction_34 : Nat → Int32 → Int64 → Int32 → Int32 → Prop
  | 0, _, _, _, _ => False
  | n + 1, x3, x4, x6, x2 => (x2 ≤ x6 → (True)) ∧ (¬ x2 ≤ x6 → (SL_X5_fraction_34 n (x3 / (10 : Int32)) ((x4 + ((131072 : Int64) * (x3 - x3 / (10 : Int32) * (10 : Int32)).toInt64)) / (10 : Int64)) (x6 + 1) x2))
def f_X5_fraction (a0 : Int32) (a1 : Int32) : Nat × Int32 := (if (f_X5_within a1.toInt64 (1 : Int64) (9 : Int64)) = 0 then (1, 0) else (if 0 ≤ a0 then (let u4 := L_X5_fraction_34 10 a0 (0 : Int64) (0 : Int32) a1; (if u4.1 = 0 then (0, ((u4.2.1 + (1 : Int64)) / (2 : Int64)).toInt32) else (1, 0))) else (1, 0)))
def S_X5_fraction (a0 : Int32) (a1 : Int32) : Prop := ((f_X5_within a1.toInt64 (1 : Int64) (9 : Int64)) = 0 → (True)) ∧ (¬ (f_X5_within a1.toInt64 (1 : Int64) (9 : Int64)) = 0 → ((0 ≤ a0 → ((SL_X5_fraction_34 10 a0 (0 : Int64) (0 : Int32) a1) ∧ (∀ u4, u4 = L_X5_fraction_34 10 a0 (0 : Int64) (0 : Int32) a1 → ((u4.1 = 0 → (True)) ∧ (¬ u4.1 = 0 → (True)))))) ∧ (¬ 0 ≤ a0 → (True))))
set_option maxHeartbeats 4000000 in
set_option maxRecDepth 100000 in
theorem c_X5_fraction (l : Launch) (hst : l.stackTraces = false) (dC : Nat → ClassId) (dI : Nat → Nat → Nat) (cI cJ : ClassId) (ad : Nat → Nat) (hi : fI 23 ad) (sz : Nat) (Bc : Nat → Int64) (Bl : Nat → Int32) (Pk : Nat → Int32) (Pr : Nat → Int32) (Pl : Nat → Int32) (Pc : Nat → Int64) (Pm : Int32) (Gf : Nat → Int32) (Gt : Nat → Int32) (Gx : Nat → Int32) (Gd : Int32) (Gm : Int32) (Ek : Nat → Int32) (Er : Nat → Int32) (Ea : Nat → Int32) (Ex : Nat → Int32) (Em : Int32) (Eb : Int32) (Et : Int32) (Ss : Nat → Int32) (Sm : Int32) (Wg : Nat → Int64) (Wr : Nat → Int64) (Md : Nat → Int64) (a0 : Int32) (a1 : Int32) (hs : S_X5_fraction a0 a1) : vx_Met l yX5_fraction (mW yX5_fraction cX5_fraction 7 (some .int)) { frames := 6, cells := 1, slots := 6, locals := 92 } (va_Pc [.ref (ad 0), .int a0, .int a1] (fun U => U.heap.size = sz ∧ va_P (dC, dI) vwCl (wC ad cI cJ Bc Bl Pk Pr Pl Pc Pm Gf Gt Gx Gd Gm Ek Er Ea Ex Em Eb Et Ss Sm Wg Wr Md) U.heap ∧ va_K (dC, dI) vwCl [(cI, .int), (cJ, .long)] U ∧ cxt (fA 23 ad sz) U U.heap)) (va_Qi (fun (r : Int32) (_ : Unit) => (f_X5_fraction a0 a1).1 = 0 ∧ r = (f_X5_fraction a0 a1).2) (fun _ t => va_P (dC, dI) vwCl (wC ad cI cJ Bc Bl Pk Pr Pl Pc Pm Gf Gt Gx Gd Gm Ek Er Ea Ex Em Eb Et Ss Sm Wg Wr Md) t.heap) (fA 23 ad sz)) (vx_X (fun _ : Unit => ¬ (f_X5_fraction a0 a1).1 = 0) (fun E _ t => E = exN ((f_X5_fraction a0 a1).1) ∧ va_P (dC, dI) vwCl (wC ad cI cJ Bc Bl Pk Pr Pl Pc Pm Gf Gt Gx Gd Gm Ek Er Ea Ex Em Eb Et Ss Sm Wg Wr Md) t.heap) (fA 23 ad sz)) 1 6 (fA 23 ad sz) := by
  refine vx_ofW (cc := cX5_fraction) (maxL := 7) (ret := (some .int)) (by decide) rfl ?_
  intro p e s m args below meth c s₁ B hml ht hv
  obtain ⟨rfl, hsz, hP, hK, hC⟩ := hv
  have hx := B.exec
  have hb := B.bytes
  have hr := B.returns
  have hts := mW_hts (atoms_spec (ws := (mW yX5_fraction cX5_fraction 7 (some .int))) B.pre)
  have hown : s.vm.findClass RX5 = some m.cls := findClass_of_methodNamed B.named
  have hlocks := B.notSynchronized
  subst hsz
  have hA : ∀ (n : Nat) (q : Nat), s.heap.size ≤ n → n ≤ q → fA 23 ad s.heap.size q := fun n q h1 h2 => Or.inr (Nat.le_trans h1 h2)
  have hS : va_S (fA 23 ad s.heap.size) s.heap s.heap [] := va_S.rf
  have hA : ∀ q, s.heap.size ≤ q → (fA 23 ad s.heap.size) q := fun q h => Or.inr h
  unfold S_X5_fraction at hs
  have hl := lv_entry ([.ref (ad 0), .int a0, .int a1]) (n := 7) (Nat.le_of_ble_eq_true rfl)
  rw [lg_entry_eq]
  generalize (lg_sl ([.ref (ad 0), .int a0, .int a1]) ++ List.replicate (7 - (lg_sl ([.ref (ad 0), .int a0, .int a1])).length) Slot.unset).toArray = ls at hl ⊢
  have hl : lv_has ls 7 [(0, .ref (ad 0)), (1, .int a0), (2, .int a1)] := hl
  refine W_gen (fun Q9 hQ9 => ?_)
  refine lv_iload_n hx hb dX5_fraction_0 rfl (lv_at hl 2 rfl) ?_
  refine lv_i2l hx hb dX5_fraction_1 rfl ?_
  refine lv_lconst (v := 1) hx hb dX5_fraction_2 (by decide) ?_
  refine lv_ldc2 hx hb hown (hts _ mK_RX5_224) dX5_fraction_3 ?_
  refine q_X5_within hx hb hml hown hts mM_RX5_71 ⟨Nat.le_of_ble_eq_true rfl, Nat.le_of_ble_eq_true rfl⟩ ⟨Nat.le_of_ble_eq_true rfl, Nat.le_of_ble_eq_true rfl⟩ hl.1 (Nat.le_of_ble_eq_true rfl) hS dX5_fraction_6 hA a1.toInt64 (1 : Int64) (9 : Int64) (fun locs hS => ?_)
  refine lv_if_eq (tgt := 16) hx hb dX5_fraction_9 (by decide) (fun c1 => ?_) (fun c1 => ?_)
  · have hs := hs.1 c1
    rw [hQ9]
    have hf : f_X5_fraction a0 a1 = (1, 0) := by simp only [f_X5_fraction, if_pos c1]
    obtain ⟨sa2, hsa2⟩ := hC.str 16 _ rfl
    refine vx_throwS (mc := 1) (ms := 6) (ik := 62) (ic := 66) (is := 226) (own := RX5) (cls := x_IAE) (text := "no such digits") (names := x_nam) hx hb hst hown (by decide) nm_x (hts _ mC_RX5_62) (hts _ mN_IllegalArgumentException) hsa2 (xw_IAE hts hC) xg_IAE hC.1 hC.2.1 hS (by rw [hml]; exact hl.1) dX5_fraction_16 dX5_fraction_19 dX5_fraction_20 dX5_fraction_22 dX5_fraction_25 (fun x hx => (ht x hx).elim) (Nat.le_of_ble_eq_true rfl) (Nat.le_of_ble_eq_true rfl) (Nat.le_of_ble_eq_true rfl) (Nat.le_of_ble_eq_true rfl) hlocks (fun t hv hz hk => ⟨(), by rw [hf]; exact (by decide : ¬ (1 : Nat) = 0), ⟨by rw [hf]; rfl, by exact hP.kept (fun k z hkz => hk z.1 (hP k z hkz).lt)⟩, ⟨Nat.le_trans hS.1 hz, fun q h1 h2 => (hk q (Nat.lt_of_lt_of_le h1 hS.1)).trans (hS.2.1 q h1 h2)⟩⟩) hS.2.2 (Nat.le_of_ble_eq_true rfl) (Nat.le_of_ble_eq_true rfl)
  · have hs := hs.2 c1
    refine lv_iload_n hx hb dX5_fraction_12 rfl (lv_at hl 1 rfl) ?_
    refine lv_if_ge (tgt := 26) hx hb dX5_fraction_13 (by decide) (fun c3 => ?_) (fun c3 => ?_)
    · have hs := hs.1 c3
      refine lv_iload_n hx hb dX5_fraction_26 rfl (lv_at hl 1 rfl) ?_
      refine lv_istore_n (lv' := [(3, .int a0), (0, .ref (ad 0)), (1, .int a0), (2, .int a1)]) hx hb dX5_fraction_27 rfl hl (by decide) rfl (fun ls hl => ?_)
      refine lv_lconst (v := 0) hx hb dX5_fraction_28 (by decide) ?_
      refine lv_lstore (lv' := [(4, .long (0 : Int64)), (3, .int a0), (0, .ref (ad 0)), (1, .int a0), (2, .int a1)]) hx hb dX5_fraction_29 hl (by decide) rfl (fun ls hl => ?_)
      refine lv_iconst (v := 0) hx hb dX5_fraction_31 (by decide) ?_
      refine lv_istore (lv' := [(6, .int (0 : Int32)), (4, .long (0 : Int64)), (3, .int a0), (0, .ref (ad 0)), (1, .int a0), (2, .int a1)]) hx hb dX5_fraction_32 hl (by decide) rfl (fun ls hl => ?_)
      obtain ⟨h5, hs⟩ := hs
      obtain ⟨u4, hu4⟩ : ∃ z, z = L_X5_fraction_34 10 a0 (0 : Int64) (0 : Int32) a1 := ⟨_, rfl⟩
      have hs := hs u4 hu4
      have hex6 : ∀ (H : Heap) (locs : List Loc) (ls : Array Slot), va_P (dC, dI) vwCl (wC ad cI cJ Bc Bl Pk Pr Pl Pc Pm Gf Gt Gx Gd Gm Ek Er Ea Ex Em Eb Et Ss Sm Wg Wr Md) H → va_S (fA 23 ad s.heap.size) s.heap H locs → lv_has ls 7 [(3, .int u4.1), (4, .long u4.2.1), (6, .int u4.2.2), (0, .ref (ad 0)), (1, .int a0), (2, .int a1)] → W p l e (headSpec (mW yX5_fraction cX5_fraction 7 (some .int)) { frames := 6, cells := 1, slots := 6, locals := 92 }).room s m ([.ref (ad 0), .int a0, .int a1] : List Value).toArray below meth c H locs 0 0 Q9 (F0 m 69 ls []) := by
        intro H locs ls hP hS hl
        refine lv_iload_n hx hb dX5_fraction_69 rfl (lv_at hl 0 rfl) ?_
        refine lv_if_eq (tgt := 83) hx hb dX5_fraction_70 (by decide) (fun c7 => ?_) (fun c7 => ?_)
        · have hs := hs.1 c7
          refine lv_lload hx hb dX5_fraction_83 (lv_at hl 1 rfl) ?_
          refine lv_lconst (v := 1) hx hb dX5_fraction_85 (by decide) ?_
          refine lv_ladd hx hb dX5_fraction_86 ?_
          refine lv_ldc2 hx hb hown (hts _ mK_RX5_184) dX5_fraction_87 ?_
          refine lv_ldiv hx hb dX5_fraction_90 (by decide) ?_
          refine lv_l2i hx hb dX5_fraction_91 rfl ?_
          rw [hQ9]
          have hf : f_X5_fraction a0 a1 = (0, ((u4.2.1 + (1 : Int64)) / (2 : Int64)).toInt32) := by simp only [f_X5_fraction, if_neg c1, if_pos c3, ← hu4, if_pos c7]
          refine vx_ret ?_
          refine W.widen (k := 1) (n := 6) (Nat.le_of_ble_eq_true rfl) (Nat.le_of_ble_eq_true rfl) ?_
          exact W.iret (v := ((u4.2.1 + (1 : Int64)) / (2 : Int64)).toInt32) hx hb hr (fun t ht hW => ⟨⟨((u4.2.1 + (1 : Int64)) / (2 : Int64)).toInt32, (), rfl, ⟨by rw [hf], by rw [hf]⟩, by show va_P (dC, dI) vwCl _ t.heap; rw [ht]; exact hP⟩, hS.F ht⟩) hS.2.2 dX5_fraction_92
        · have hs := hs.2 c7
          rw [hQ9]
          have hf : f_X5_fraction a0 a1 = (1, 0) := by simp only [f_X5_fraction, if_neg c1, if_pos c3, ← hu4, if_neg c7]
          obtain ⟨sa8, hsa8⟩ := hC.str 17 _ rfl
          refine vx_throwS (mc := 1) (ms := 6) (ik := 62) (ic := 66) (is := 232) (own := RX5) (cls := x_IAE) (text := "more digits than told") (names := x_nam) hx hb hst hown (by decide) nm_x (hts _ mC_RX5_62) (hts _ mN_IllegalArgumentException) hsa8 (xw_IAE hts hC) xg_IAE hC.1 hC.2.1 hS (by rw [hml]; exact hl.1) dX5_fraction_73 dX5_fraction_76 dX5_fraction_77 dX5_fraction_79 dX5_fraction_82 (fun x hx => (ht x hx).elim) (Nat.le_of_ble_eq_true rfl) (Nat.le_of_ble_eq_true rfl) (Nat.le_of_ble_eq_true rfl) (Nat.le_of_ble_eq_true rfl) hlocks (fun t hv hz hk => ⟨(), by rw [hf]; exact (by decide : ¬ (1 : Nat) = 0), ⟨by rw [hf]; rfl, by exact hP.kept (fun k z hkz => hk z.1 (hP k z hkz).lt)⟩, ⟨Nat.le_trans hS.1 hz, fun q h1 h2 => (hk q (Nat.lt_of_lt_of_le h1 hS.1)).trans (hS.2.1 q h1 h2)⟩⟩) hS.2.2 (Nat.le_of_ble_eq_true rfl) (Nat.le_of_ble_eq_true rfl)
      have hlp9 : ∀ (n : Nat) (x3v : Int32) (x4v : Int64) (x6v : Int32) (H : Heap) (locs : List Loc) (ls : Array Slot), SL_X5_fraction_34 n x3v x4v x6v a1 → u4 = L_X5_fraction_34 n x3v x4v x6v a1 → va_P (dC, dI) vwCl (wC ad cI cJ Bc Bl Pk Pr Pl Pc Pm Gf Gt Gx Gd Gm Ek Er Ea Ex Em Eb Et Ss Sm Wg Wr Md) H → va_S (fA 23 ad s.heap.size) s.heap H locs → lv_has ls 7 [(3, .int x3v), (4, .long x4v), (6, .int x6v), (0, .ref (ad 0)), (1, .int a0), (2, .int a1)] → W p l e (headSpec (mW yX5_fraction cX5_fraction 7 (some .int)) { frames := 6, cells := 1, slots := 6, locals := 92 }).room s m ([.ref (ad 0), .int a0, .int a1] : List Value).toArray below meth c H locs 0 0 Q9 (F0 m 34 ls []) := by
        intro n
        induction n with
        | zero => intro x3v x4v x6v H locs ls hs; rw [SL_X5_fraction_34] at hs; exact hs.elim
        | succ n ih =>
          intro x3v x4v x6v H locs ls hs hq10 hP hS hl
          rw [SL_X5_fraction_34] at hs
          refine lv_iload hx hb dX5_fraction_34 (lv_at hl 2 rfl) ?_
          refine lv_iload_n hx hb dX5_fraction_36 rfl (lv_at hl 5 rfl) ?_
          refine lv_icmp_ge (tgt := 69) hx hb dX5_fraction_37 (by decide) (fun c11 => ?_) (fun c11 => ?_)
          · have hs := hs.1 c11
            have he12 : u4 = (x3v, x4v, x6v) := by rw [hq10, L_X5_fraction_34]; simp only [if_pos c11, ↓reduceIte]
            exact hex6 _ _ _ (by first | exact hP | (rw [he12]; exact hP)) hS (by first | exact lv_sub hl [0, 1, 2, 3, 4, 5] rfl | (rw [he12]; exact lv_sub hl [0, 1, 2, 3, 4, 5] rfl))
          · have hs := hs.2 c11
            refine lv_lload hx hb dX5_fraction_40 (lv_at hl 1 rfl) ?_
            refine lv_ldc2 hx hb hown (hts _ mK_RX5_228) dX5_fraction_42 ?_
            refine lv_iload_n hx hb dX5_fraction_45 rfl (lv_at hl 0 rfl) ?_
            refine lv_bipush (v := 10) hx hb dX5_fraction_46 (by decide) ?_
            refine lv_irem hx hb dX5_fraction_48 (by decide) ?_
            refine lv_i2l hx hb dX5_fraction_49 rfl ?_
            refine lv_lmul hx hb dX5_fraction_50 ?_
            refine lv_ladd hx hb dX5_fraction_51 ?_
            refine lv_ldc2 hx hb hown (hts _ mK_RX5_230) dX5_fraction_52 ?_
            refine lv_ldiv hx hb dX5_fraction_55 (by decide) ?_
            refine lv_lstore (lv' := [(4, .long ((x4v + ((131072 : Int64) * (x3v - x3v / (10 : Int32) * (10 : Int32)).toInt64)) / (10 : Int64))), (3, .int x3v), (6, .int x6v), (0, .ref (ad 0)), (1, .int a0), (2, .int a1)]) hx hb dX5_fraction_56 hl (by decide) rfl (fun ls hl => ?_)
            refine lv_iload_n hx hb dX5_fraction_58 rfl (lv_at hl 1 rfl) ?_
            refine lv_bipush (v := 10) hx hb dX5_fraction_59 (by decide) ?_
            refine lv_idiv hx hb dX5_fraction_61 (by decide) ?_
            refine lv_istore_n (lv' := [(3, .int (x3v / (10 : Int32))), (4, .long ((x4v + ((131072 : Int64) * (x3v - x3v / (10 : Int32) * (10 : Int32)).toInt64)) / (10 : Int64))), (6, .int x6v), (0, .ref (ad 0)), (1, .int a0), (2, .int a1)]) hx hb dX5_fraction_62 rfl hl (by decide) rfl (fun ls hl => ?_)
            refine lv_iinc (v := (x6v + 1)) (lv' := [(6, .int (x6v + 1)), (3, .int (x3v / (10 : Int32))), (4, .long ((x4v + ((131072 : Int64) * (x3v - x3v / (10 : Int32) * (10 : Int32)).toInt64)) / (10 : Int64))), (0, .ref (ad 0)), (1, .int a0), (2, .int a1)]) hx hb dX5_fraction_63 hl (k := 2) rfl rfl (by decide) rfl (fun ls hl => ?_)
            refine lv_goto (tgt := 34) hx hb dX5_fraction_66 (by decide) ?_
            exact ih (x3v / (10 : Int32)) ((x4v + ((131072 : Int64) * (x3v - x3v / (10 : Int32) * (10 : Int32)).toInt64)) / (10 : Int64)) (x6v + 1) _ _ _ hs (by rw [hq10, L_X5_fraction_34]; simp only [if_neg c11, ↓reduceIte]) hP hS (lv_sub hl [1, 2, 0, 3, 4, 5] rfl)
      exact hlp9 10 a0 (0 : Int64) (0 : Int32) _ _ _ h5 hu4 hP hS (lv_sub hl [2, 1, 0, 3, 4, 5] rfl)
    · have hs := hs.2 c3
      rw [hQ9]
      have hf : f_X5_fraction a0 a1 = (1, 0) := by simp only [f_X5_fraction, if_neg c1, if_neg c3]
      obtain ⟨sa13, hsa13⟩ := hC.str 16 _ rfl
      refine vx_throwS (mc := 1) (ms := 6) (ik := 62) (ic := 66) (is := 226) (own := RX5) (cls := x_IAE) (text := "no such digits") (names := x_nam) hx hb hst hown (by decide) nm_x (hts _ mC_RX5_62) (hts _ mN_IllegalArgumentException) hsa13 (xw_IAE hts hC) xg_IAE hC.1 hC.2.1 hS (by rw [hml]; exact hl.1) dX5_fraction_16 dX5_fraction_19 dX5_fraction_20 dX5_fraction_22 dX5_fraction_25 (fun x hx => (ht x hx).elim) (Nat.le_of_ble_eq_true rfl) (Nat.le_of_ble_eq_true rfl) (Nat.le_of_ble_eq_true rfl) (Nat.le_of_ble_eq_true rfl) hlocks (fun t hv hz hk => ⟨(), by rw [hf]; exact (by decide : ¬ (1 : Nat) = 0), ⟨by rw [hf]; rfl, by exact hP.kept (fun k z hkz => hk z.1 (hP k z hkz).lt)⟩, ⟨Nat.le_trans hS.1 hz, fun q h1 h2 => (hk q (Nat.lt_of_lt_of_le h1 hS.1)).trans (hS.2.1 q h1 h2)⟩⟩) hS.2.2 (Nat.le_of_ble_eq_true rfl) (Nat.le_of_ble_eq_true rfl)
theorem q_X5_fraction {p : Program} {l : Launch} {e : Env} {R : Room} {s : State} {m : MethodId} {args : Array Value} {below : List Frame} {meth : Method} {c : Code} {H : Heap} {locs : List Loc} {cells slots : Nat} {Q : State → Prop} {pc : Nat} {ls : Array Slot} {rest : List Value} {cc : ByteArray} {nL idx : Nat} {own : String} {A0 : Nat → Prop} {dC : Nat → ClassId} {dI : Nat → Nat → Nat} {cI cJ : ClassId} {ad : Nat → Nat} {Bc : Nat → Int64} {Bl : Nat → Int32} {Pk : Nat → Int32} {Pr : Nat → Int32} {Pl : Nat → Int32} {Pc : Nat → Int64} {Pm : Int32} {Gf : Nat → Int32} {Gt : Nat → Int32} {Gx : Nat → Int32} {Gd : Int32} {Gm : Int32} {Ek : Nat → Int32} {Er : Nat → Int32} {Ea : Nat → Int32} {Ex : Nat → Int32} {Em : Int32} {Eb : Int32} {Et : Int32} {Ss : Nat → Int32} {Sm : Int32} {Wg : Nat → Int64} {Wr : Nat → Int64} {Md : Nat → Int64} (hst : l.stackTraces = false) (hx : p.tables.exec = Jvm.exec) (hb : c.code = cc) (hml : c.maxLocals = nL) (hown : s.vm.findClass own = some m.cls) (hts : ∀ w ∈ bigW, w.before args s = true) (hlk : Cond.methodLink own idx yX5_fraction ∈ bigW) (hR : 7 ≤ R.frames ∧ 118 ≤ R.locals) (hf : cells + 1 ≤ R.cells ∧ slots + 6 ≤ R.slots) (hz : ls.size = nL) (hw : (rest.map fun v => v.category).sum ≤ 8) (hS : va_S A0 s.heap H locs) (hd : decode cc pc = .ok (.invokevirtual idx, 3)) (hA : ∀ q, fA 23 ad H.size q → A0 q) (hi : fI 23 ad) (hK : va_K (dC, dI) vwCl [(cI, .int), (cJ, .long)] s) (hP : va_P (dC, dI) vwCl (wC ad cI cJ Bc Bl Pk Pr Pl Pc Pm Gf Gt Gx Gd Gm Ek Er Ea Ex Em Eb Et Ss Sm Wg Wr Md) H) (hC : cxt A0 s s.heap) (a0 : Int32) (a1 : Int32) (hs : S_X5_fraction a0 a1)  (u : Nat × Int32) (hu : u = f_X5_fraction a0 a1) (kx : ∀ {E : String} (hE : E = exN u.1) (ho : ¬ u.1 = 0) (H1 : Heap) (locs1 : List Loc), va_P (dC, dI) vwCl (wC ad cI cJ Bc Bl Pk Pr Pl Pc Pm Gf Gt Gx Gd Gm Ek Er Ea Ex Em Eb Et Ss Sm Wg Wr Md) H1 → va_S A0 s.heap H1 locs1 → ∀ (ce : Cell) (q9 : Addr), H1[q9]? = some ce → ce.vm = .none → s.vm.findClass E = some ce.cls → vx_W p l e R s m args below meth c H1 locs1 (cells + 1) (slots + 6) Q (F0 m pc ls rest) q9) (k : u.1 = 0 → ∀ (H1 : Heap) (locs1 : List Loc), va_P (dC, dI) vwCl (wC ad cI cJ Bc Bl Pk Pr Pl Pc Pm Gf Gt Gx Gd Gm Ek Er Ea Ex Em Eb Et Ss Sm Wg Wr Md) H1 → va_S A0 s.heap H1 locs1 → W p l e R s m args below meth c H1 locs1 (cells + 1) (slots + 6) Q (F0 m (pc + 3) ls (.int u.2 :: rest))) : W p l e R s m args below meth c H locs cells slots Q (F0 m pc ls (.int a1 :: .int a0 :: .ref (ad 0) :: rest)) := by
  subst hu
  exact vx_calli (vx_runV (As := [.int a0, .int a1]) (rest := rest) ⟨hx, hb, hml, hown, hts⟩ (c_X5_fraction l hst dC dI cI cJ ad hi H.size Bc Bl Pk Pr Pl Pc Pm Gf Gt Gx Gd Gm Ek Er Ea Ex Em Eb Et Ss Sm Wg Wr Md a0 a1 hs) (kV 2 hts hlk mI_X5_fraction mN_RX5 mY_X5_fraction mV_X5_fraction rfl rfl (by decide +kernel) hR) ⟨fun a U g mk q => ⟨q.1, q.2.1, q.2.2.1, va_K.moved (u := U) (U := U.calling g mk a) (Vm.Alike.refl U.vm) q.2.2.2.1, q.2.2.2.2.call⟩, va_recv hK hP (ci := 7) (q0 := 0) rfl rfl, fun U hU hW => ⟨rfl, by rw [hU], by rw [hU]; exact hP, va_K.moved hW.alike hK, hC.here hS hU hW hA⟩⟩ rfl rfl hz rfl (lv_room hw) hd hf) hS (fun q _ h => hA q h) (fun q h => hA q h) (fun q _ h => hA q h) (fun E ce q9 u t H1 locs1 ht hvm hw9 hB hz1 hk1 hS1 h1 h2 h3 => kx hB.1 hw9 H1 locs1 (by rw [← ht]; exact hB.2) hS1 ce q9 h1 h2 h3) (fun r u t H1 locs1 ht hvm hw9 hB hz1 hk1 hS1 => by
    obtain ⟨e1, rfl⟩ := hw9
    exact k e1 H1 locs1 (by rw [← ht]; exact hB) hS1)
theorem qf_X5_fraction {p : Program} {l : Launch} {e : Env} {R : Room} {s : State} {m : MethodId} {args : Array Value} {below : List Frame} {meth : Method} {c : Code} {H : Heap} {locs : List Loc} {cells slots : Nat} {Q : State → Prop} {pc : Nat} {ls : Array Slot} {rest : List Value} {cc : ByteArray} {nL idx : Nat} {own : String} {A0 : Nat → Prop} {dC : Nat → ClassId} {dI : Nat → Nat → Nat} {cI cJ : ClassId} {ad : Nat → Nat} {Bc : Nat → Int64} {Bl : Nat → Int32} {Pk : Nat → Int32} {Pr : Nat → Int32} {Pl : Nat → Int32} {Pc : Nat → Int64} {Pm : Int32} {Gf : Nat → Int32} {Gt : Nat → Int32} {Gx : Nat → Int32} {Gd : Int32} {Gm : Int32} {Ek : Nat → Int32} {Er : Nat → Int32} {Ea : Nat → Int32} {Ex : Nat → Int32} {Em : Int32} {Eb : Int32} {Et : Int32} {Ss : Nat → Int32} {Sm : Int32} {Wg : Nat → Int64} {Wr : Nat → Int64} {Md : Nat → Int64} (hst : l.stackTraces = false) (hx : p.tables.exec = Jvm.exec) (hb : c.code = cc) (hml : c.maxLocals = nL) (hown : s.vm.findClass own = some m.cls) (hts : ∀ w ∈ bigW, w.before args s = true) (hlk : Cond.methodLink own idx yX5_fraction ∈ bigW) (hR : 7 ≤ R.frames ∧ 118 ≤ R.locals) (hf : cells + 1 ≤ R.cells ∧ slots + 6 ≤ R.slots) (hz : ls.size = nL) (hw : (rest.map fun v => v.category).sum ≤ 8) (hS : va_S A0 s.heap H locs) (hd : decode cc pc = .ok (.invokevirtual idx, 3)) (hA : ∀ q, fA 23 ad H.size q → A0 q) (hi : fI 23 ad) (hK : va_K (dC, dI) vwCl [(cI, .int), (cJ, .long)] s) (hP : va_P (dC, dI) vwCl (wC ad cI cJ Bc Bl Pk Pr Pl Pc Pm Gf Gt Gx Gd Gm Ek Er Ea Ex Em Eb Et Ss Sm Wg Wr Md) H) (hC : cxt A0 s s.heap) (a0 : Int32) (a1 : Int32) (hs : S_X5_fraction a0 a1)  (u : Nat × Int32) (hu : u = f_X5_fraction a0 a1) (kx : ∀ {E : String} (hE : E = exN u.1) (ho : ¬ u.1 = 0) (H1 : Heap) (locs1 : List Loc), va_P (dC, dI) vwCl (wC ad cI cJ Bc Bl Pk Pr Pl Pc Pm Gf Gt Gx Gd Gm Ek Er Ea Ex Em Eb Et Ss Sm Wg Wr Md) H1 → va_S A0 s.heap H1 locs1 → (∀ q : Nat, q < H.size → ¬ fA 23 ad H.size q → H1[q]? = H[q]?) → H.size ≤ H1.size → ∀ (ce : Cell) (q9 : Addr), H1[q9]? = some ce → ce.vm = .none → s.vm.findClass E = some ce.cls → vx_W p l e R s m args below meth c H1 locs1 (cells + 1) (slots + 6) Q (F0 m pc ls rest) q9) (k : u.1 = 0 → ∀ (H1 : Heap) (locs1 : List Loc), va_P (dC, dI) vwCl (wC ad cI cJ Bc Bl Pk Pr Pl Pc Pm Gf Gt Gx Gd Gm Ek Er Ea Ex Em Eb Et Ss Sm Wg Wr Md) H1 → va_S A0 s.heap H1 locs1 → (∀ q : Nat, q < H.size → ¬ fA 23 ad H.size q → H1[q]? = H[q]?) → H.size ≤ H1.size → W p l e R s m args below meth c H1 locs1 (cells + 1) (slots + 6) Q (F0 m (pc + 3) ls (.int u.2 :: rest))) : W p l e R s m args below meth c H locs cells slots Q (F0 m pc ls (.int a1 :: .int a0 :: .ref (ad 0) :: rest)) := by
  subst hu
  exact vx_calli (vx_runV (As := [.int a0, .int a1]) (rest := rest) ⟨hx, hb, hml, hown, hts⟩ (c_X5_fraction l hst dC dI cI cJ ad hi H.size Bc Bl Pk Pr Pl Pc Pm Gf Gt Gx Gd Gm Ek Er Ea Ex Em Eb Et Ss Sm Wg Wr Md a0 a1 hs) (kV 2 hts hlk mI_X5_fraction mN_RX5 mY_X5_fraction mV_X5_fraction rfl rfl (by decide +kernel) hR) ⟨fun a U g mk q => ⟨q.1, q.2.1, q.2.2.1, va_K.moved (u := U) (U := U.calling g mk a) (Vm.Alike.refl U.vm) q.2.2.2.1, q.2.2.2.2.call⟩, va_recv hK hP (ci := 7) (q0 := 0) rfl rfl, fun U hU hW => ⟨rfl, by rw [hU], by rw [hU]; exact hP, va_K.moved hW.alike hK, hC.here hS hU hW hA⟩⟩ rfl rfl hz rfl (lv_room hw) hd hf) hS (fun q _ h => hA q h) (fun q h => hA q h) (fun q _ h => hA q h) (fun E ce q9 u t H1 locs1 ht hvm hw9 hB hz1 hk1 hS1 h1 h2 h3 => kx hB.1 hw9 H1 locs1 (by rw [← ht]; exact hB.2) hS1 hk1 hz1 ce q9 h1 h2 h3) (fun r u t H1 locs1 ht hvm hw9 hB hz1 hk1 hS1 => by
    obtain ⟨e1, rfl⟩ := hw9
    exact k e1 H1 locs1 (by rw [← ht]; exact hB) hS1 hk1 hz1)

def f_X5_told (a0 : Int32) (a1 : Int32) (Bl : Nat → Int32) (Pm : Int32) (Gd : Int32) : Nat × Int32 := (if a0 = 0 then (0, Gd) else (if a0 = (1 : Int32) then (0, Pm) else (if (f_X5_within a0.toInt64 (10 : Int64) (14 : Int64)) = 0 then (1, 0) else (let u4 := f_X5_checkRegister a1.toInt64; (if u4 = 0 then (0, (Bl (f_X0_place (a0 - (10 : Int32)) a1).toNatClampNeg)) else (u4, 0))))))
def S_X5_told (a0 : Int32) (a1 : Int32) (Bl : Nat → Int32) (Pm : Int32) (Gd : Int32) : Prop := (a0 = 0 → (True)) ∧ (¬ a0 = 0 → ((a0 = (1 : Int32) → (True)) ∧ (¬ a0 = (1 : Int32) → (((f_X5_within a0.toInt64 (10 : Int64) (14 : Int64)) = 0 → (True)) ∧ (¬ (f_X5_within a0.toInt64 (10 : Int64) (14 : Int64)) = 0 → (∀ u4, u4 = f_X5_checkRegister a1.toInt64 → (u4 = 0 → ((vp_in (f_X0_place (a0 - (10 : Int32)) a1) 160) ∧ (True)))))))))
set_option maxHeartbeats 4000000 in
set_option maxRecDepth 100000 in
theorem c_X5_told (l : Launch) (hst : l.stackTraces = false) (dC : Nat → ClassId) (dI : Nat → Nat → Nat) (cI cJ : ClassId) (ad : Nat → Nat) (hi : fI 23 ad) (sz : Nat) (Bc : Nat → Int64) (Bl : Nat → Int32) (Pk : Nat → Int32) (Pr : Nat → Int32) (Pl : Nat → Int32) (Pc : Nat → Int64) (Pm : Int32) (Gf : Nat → Int32) (Gt : Nat → Int32) (Gx : Nat → Int32) (Gd : Int32) (Gm : Int32) (Ek : Nat → Int32) (Er : Nat → Int32) (Ea : Nat → Int32) (Ex : Nat → Int32) (Em : Int32) (Eb : Int32) (Et : Int32) (Ss : Nat → Int32) (Sm : Int32) (Wg : Nat → Int64) (Wr : Nat → Int64) (Md : Nat → Int64) (a0 : Int32) (a1 : Int32) (hs : S_X5_told a0 a1 Bl Pm Gd) : vx_Met l yX5_told (mW yX5_told cX5_told 3 (some .int)) { frames := 7, cells := 1, slots := 6, locals := 113 } (va_Pc [.ref (ad 0), .int a0, .int a1] (fun U => U.heap.size = sz ∧ va_P (dC, dI) vwCl (wC ad cI cJ Bc Bl Pk Pr Pl Pc Pm Gf Gt Gx Gd Gm Ek Er Ea Ex Em Eb Et Ss Sm Wg Wr Md) U.heap ∧ va_K (dC, dI) vwCl [(cI, .int), (cJ, .long)] U ∧ cxt (fA 23 ad sz) U U.heap)) (va_Qi (fun (r : Int32) (_ : Unit) => (f_X5_told a0 a1 Bl Pm Gd).1 = 0 ∧ r = (f_X5_told a0 a1 Bl Pm Gd).2) (fun _ t => va_P (dC, dI) vwCl (wC ad cI cJ Bc Bl Pk Pr Pl Pc Pm Gf Gt Gx Gd Gm Ek Er Ea Ex Em Eb Et Ss Sm Wg Wr Md) t.heap) (fA 23 ad sz)) (vx_X (fun _ : Unit => ¬ (f_X5_told a0 a1 Bl Pm Gd).1 = 0) (fun E _ t => E = exN ((f_X5_told a0 a1 Bl Pm Gd).1) ∧ va_P (dC, dI) vwCl (wC ad cI cJ Bc Bl Pk Pr Pl Pc Pm Gf Gt Gx Gd Gm Ek Er Ea Ex Em Eb Et Ss Sm Wg Wr Md) t.heap) (fA 23 ad sz)) 1 6 (fA 23 ad sz) := by
  refine vx_ofW (cc := cX5_told) (maxL := 3) (ret := (some .int)) (by decide) rfl ?_
  intro p e s m args below meth c s₁ B hml ht hv
  obtain ⟨rfl, hsz, hP, hK, hC⟩ := hv
  have hx := B.exec
  have hb := B.bytes
  have hr := B.returns
  have hts := mW_hts (atoms_spec (ws := (mW yX5_told cX5_told 3 (some .int))) B.pre)
  have hown : s.vm.findClass RX5 = some m.cls := findClass_of_methodNamed B.named
  have hlocks := B.notSynchronized
  subst hsz
  have hA : ∀ (n : Nat) (q : Nat), s.heap.size ≤ n → n ≤ q → fA 23 ad s.heap.size q := fun n q h1 h2 => Or.inr (Nat.le_trans h1 h2)
  have hS : va_S (fA 23 ad s.heap.size) s.heap s.heap [] := va_S.rf
  have hA : ∀ q, s.heap.size ≤ q → (fA 23 ad s.heap.size) q := fun q h => Or.inr h
  unfold S_X5_told at hs
  have hl := lv_entry ([.ref (ad 0), .int a0, .int a1]) (n := 3) (Nat.le_of_ble_eq_true rfl)
  rw [lg_entry_eq]
  generalize (lg_sl ([.ref (ad 0), .int a0, .int a1]) ++ List.replicate (3 - (lg_sl ([.ref (ad 0), .int a0, .int a1])).length) Slot.unset).toArray = ls at hl ⊢
  have hl : lv_has ls 3 [(0, .ref (ad 0)), (1, .int a0), (2, .int a1)] := hl
  refine W_gen (fun Q9 hQ9 => ?_)
  refine lv_iload_n hx hb dX5_told_0 rfl (lv_at hl 1 rfl) ?_
  refine lv_if_ne (tgt := 12) hx hb dX5_told_1 (by decide) (fun c1 => ?_) (fun c1 => ?_)
  · have hs := hs.2 c1
    refine lv_iload_n hx hb dX5_told_12 rfl (lv_at hl 1 rfl) ?_
    refine lv_iconst (v := 1) hx hb dX5_told_13 (by decide) ?_
    refine lv_icmp_ne (tgt := 25) hx hb dX5_told_14 (by decide) (fun c2 => ?_) (fun c2 => ?_)
    · have hs := hs.2 c2
      refine lv_iload_n hx hb dX5_told_25 rfl (lv_at hl 1 rfl) ?_
      refine lv_i2l hx hb dX5_told_26 rfl ?_
      refine lv_ldc2 hx hb hown (hts _ mK_RX5_230) dX5_told_27 ?_
      refine lv_ldc2 hx hb hown (hts _ mK_RX5_242) dX5_told_30 ?_
      refine q_X5_within hx hb hml hown hts mM_RX5_71 ⟨Nat.le_of_ble_eq_true rfl, Nat.le_of_ble_eq_true rfl⟩ ⟨Nat.le_of_ble_eq_true rfl, Nat.le_of_ble_eq_true rfl⟩ hl.1 (Nat.le_of_ble_eq_true rfl) hS dX5_told_33 hA a0.toInt64 (10 : Int64) (14 : Int64) (fun locs hS => ?_)
      refine lv_if_ne (tgt := 49) hx hb dX5_told_36 (by decide) (fun c3 => ?_) (fun c3 => ?_)
      · have hs := hs.2 c3
        refine lv_iload_n hx hb dX5_told_49 rfl (lv_at hl 2 rfl) ?_
        refine lv_i2l hx hb dX5_told_50 rfl ?_
        obtain ⟨u4, hu4⟩ : ∃ z, z = f_X5_checkRegister a1.toInt64 := ⟨_, rfl⟩
        have hs := hs u4 hu4
        refine q_X5_checkRegister hst hx hb hml hown hts mM_RX5_87 ⟨Nat.le_of_ble_eq_true rfl, Nat.le_of_ble_eq_true rfl⟩ ⟨Nat.le_of_ble_eq_true rfl, Nat.le_of_ble_eq_true rfl⟩ hl.1 (Nat.le_of_ble_eq_true rfl) hS dX5_told_51 hA hC a1.toInt64 u4 hu4 (fun hE c5 H locs hk hz hS ce q9 h71 h72 h73 => ?_) (fun c5 locs hS => ?_)
        · have hP := hP.kept (H1 := H) (fun k z hkz => hk z.1 (hP k z hkz).lt)
          rw [hQ9]
          have hf : f_X5_told a0 a1 Bl Pm Gd = (u4, 0) := by simp only [f_X5_told, if_neg c1, if_neg c2, if_neg c3, ← hu4, if_neg c5]
          refine vx_widen (k := 1) (n := 6) (Nat.le_of_ble_eq_true rfl) (Nat.le_of_ble_eq_true rfl) (vx_out (fun x hx => (ht x hx).elim) hlocks h71 h72 h73 (fun t hh hv => ⟨(), by rw [hf]; exact c5, ⟨by rw [hf]; exact hE, by show va_P (dC, dI) vwCl _ t.heap; rw [hh]; exact hP⟩, hS.F hh⟩) hS.2.2 (Nat.le_of_ble_eq_true rfl) (Nat.le_of_ble_eq_true rfl))
        · have hs := hs c5
          refine lv_aload_n hx hb dX5_told_54 rfl (lv_at hl 0 rfl) ?_
          refine va_get (D := (dC, dI)) (ci := 7) (v := .ref (ad 1)) (C := RX5) (T := TX5) (N := 8) hx hb hts iW_X5 hown hK hP 0 rfl rfl 0 (by decide) (hts _ mF_RX5_10) (fun _ h9 => h9) rfl dX5_told_55 ?_
          refine va_get (D := (dC, dI)) (ci := 2) (v := .ref (ad 3)) (C := RX0) (T := TX0) (N := 2) hx hb hts iW_X0 hown hK hP 1 rfl rfl 1 (by decide) (hts _ mF_RX5_246) (fun _ h9 => h9) rfl dX5_told_58 ?_
          refine lv_iload_n hx hb dX5_told_61 rfl (lv_at hl 1 rfl) ?_
          refine lv_bipush (v := 10) hx hb dX5_told_62 (by decide) ?_
          refine lv_isub hx hb dX5_told_64 ?_
          refine lv_iload_n hx hb dX5_told_65 rfl (lv_at hl 2 rfl) ?_
          refine q_X0_place hx hb hml hown hts mM_RX5_249 ⟨Nat.le_of_ble_eq_true rfl, Nat.le_of_ble_eq_true rfl⟩ ⟨Nat.le_of_ble_eq_true rfl, Nat.le_of_ble_eq_true rfl⟩ hl.1 (Nat.le_of_ble_eq_true rfl) hS dX5_told_66 hA (a0 - (10 : Int32)) a1 (fun locs hS => ?_)
          obtain ⟨h6, hs⟩ := hs
          refine va_iald hx hb hK hP 3 0 rfl rfl h6 dX5_told_69 ?_
          rw [hQ9]
          have hf : f_X5_told a0 a1 Bl Pm Gd = (0, (Bl (f_X0_place (a0 - (10 : Int32)) a1).toNatClampNeg)) := by simp only [f_X5_told, if_neg c1, if_neg c2, if_neg c3, ← hu4, if_pos c5]
          refine vx_ret ?_
          exact W.iret (v := (Bl (f_X0_place (a0 - (10 : Int32)) a1).toNatClampNeg)) hx hb hr (fun t ht hW => ⟨⟨(Bl (f_X0_place (a0 - (10 : Int32)) a1).toNatClampNeg), (), rfl, ⟨by rw [hf], by rw [hf]⟩, by show va_P (dC, dI) vwCl _ t.heap; rw [ht]; exact hP⟩, hS.F ht⟩) hS.2.2 dX5_told_70
      · have hs := hs.1 c3
        rw [hQ9]
        have hf : f_X5_told a0 a1 Bl Pm Gd = (1, 0) := by simp only [f_X5_told, if_neg c1, if_neg c2, if_pos c3]
        obtain ⟨sa7, hsa7⟩ := hC.str 18 _ rfl
        refine vx_throwS (mc := 1) (ms := 6) (ik := 62) (ic := 66) (is := 244) (own := RX5) (cls := x_IAE) (text := "nothing such is told") (names := x_nam) hx hb hst hown (by decide) nm_x (hts _ mC_RX5_62) (hts _ mN_IllegalArgumentException) hsa7 (xw_IAE hts hC) xg_IAE hC.1 hC.2.1 hS (by rw [hml]; exact hl.1) dX5_told_39 dX5_told_42 dX5_told_43 dX5_told_45 dX5_told_48 (fun x hx => (ht x hx).elim) (Nat.le_of_ble_eq_true rfl) (Nat.le_of_ble_eq_true rfl) (Nat.le_of_ble_eq_true rfl) (Nat.le_of_ble_eq_true rfl) hlocks (fun t hv hz hk => ⟨(), by rw [hf]; exact (by decide : ¬ (1 : Nat) = 0), ⟨by rw [hf]; rfl, by exact hP.kept (fun k z hkz => hk z.1 (hP k z hkz).lt)⟩, ⟨Nat.le_trans hS.1 hz, fun q h1 h2 => (hk q (Nat.lt_of_lt_of_le h1 hS.1)).trans (hS.2.1 q h1 h2)⟩⟩) hS.2.2 (Nat.le_of_ble_eq_true rfl) (Nat.le_of_ble_eq_true rfl)
    · have hs := hs.1 c2
      refine lv_aload_n hx hb dX5_told_17 rfl (lv_at hl 0 rfl) ?_
      refine va_get (D := (dC, dI)) (ci := 7) (v := .ref (ad 4)) (C := RX5) (T := TX5) (N := 8) hx hb hts iW_X5 hown hK hP 0 rfl rfl 1 (by decide) (hts _ mF_RX5_19) (fun _ h9 => h9) rfl dX5_told_18 ?_
      refine va_get (D := (dC, dI)) (ci := 5) (v := .int Pm) (C := RX3) (T := TX3) (N := 5) hx hb hts iW_X3 hown hK hP 4 rfl rfl 4 (by decide) (hts _ mF_RX5_143) (fun _ h9 => h9) rfl dX5_told_21 ?_
      rw [hQ9]
      have hf : f_X5_told a0 a1 Bl Pm Gd = (0, Pm) := by simp only [f_X5_told, if_neg c1, if_pos c2]
      refine vx_ret ?_
      refine W.widen (k := 1) (n := 6) (Nat.le_of_ble_eq_true rfl) (Nat.le_of_ble_eq_true rfl) ?_
      exact W.iret (v := Pm) hx hb hr (fun t ht hW => ⟨⟨Pm, (), rfl, ⟨by rw [hf], by rw [hf]⟩, by show va_P (dC, dI) vwCl _ t.heap; rw [ht]; exact hP⟩, hS.F ht⟩) hS.2.2 dX5_told_24
  · have hs := hs.1 c1
    refine lv_aload_n hx hb dX5_told_4 rfl (lv_at hl 0 rfl) ?_
    refine va_get (D := (dC, dI)) (ci := 7) (v := .ref (ad 9)) (C := RX5) (T := TX5) (N := 8) hx hb hts iW_X5 hown hK hP 0 rfl rfl 2 (by decide) (hts _ mF_RX5_26) (fun _ h9 => h9) rfl dX5_told_5 ?_
    refine va_get (D := (dC, dI)) (ci := 4) (v := .int Gd) (C := RX2) (T := TX2) (N := 5) hx hb hts iW_X2 hown hK hP 9 rfl rfl 3 (by decide) (hts _ mF_RX5_134) (fun _ h9 => h9) rfl dX5_told_8 ?_
    rw [hQ9]
    have hf : f_X5_told a0 a1 Bl Pm Gd = (0, Gd) := by simp only [f_X5_told, if_pos c1]
    refine vx_ret ?_
    refine W.widen (k := 1) (n := 6) (Nat.le_of_ble_eq_true rfl) (Nat.le_of_ble_eq_true rfl) ?_
    exact W.iret (v := Gd) hx hb hr (fun t ht hW => ⟨⟨Gd, (), rfl, ⟨by rw [hf], by rw [hf]⟩, by show va_P (dC, dI) vwCl _ t.heap; rw [ht]; exact hP⟩, hS.F ht⟩) hS.2.2 dX5_told_11
theorem q_X5_told {p : Program} {l : Launch} {e : Env} {R : Room} {s : State} {m : MethodId} {args : Array Value} {below : List Frame} {meth : Method} {c : Code} {H : Heap} {locs : List Loc} {cells slots : Nat} {Q : State → Prop} {pc : Nat} {ls : Array Slot} {rest : List Value} {cc : ByteArray} {nL idx : Nat} {own : String} {A0 : Nat → Prop} {dC : Nat → ClassId} {dI : Nat → Nat → Nat} {cI cJ : ClassId} {ad : Nat → Nat} {Bc : Nat → Int64} {Bl : Nat → Int32} {Pk : Nat → Int32} {Pr : Nat → Int32} {Pl : Nat → Int32} {Pc : Nat → Int64} {Pm : Int32} {Gf : Nat → Int32} {Gt : Nat → Int32} {Gx : Nat → Int32} {Gd : Int32} {Gm : Int32} {Ek : Nat → Int32} {Er : Nat → Int32} {Ea : Nat → Int32} {Ex : Nat → Int32} {Em : Int32} {Eb : Int32} {Et : Int32} {Ss : Nat → Int32} {Sm : Int32} {Wg : Nat → Int64} {Wr : Nat → Int64} {Md : Nat → Int64} (hst : l.stackTraces = false) (hx : p.tables.exec = Jvm.exec) (hb : c.code = cc) (hml : c.maxLocals = nL) (hown : s.vm.findClass own = some m.cls) (hts : ∀ w ∈ bigW, w.before args s = true) (hlk : Cond.methodLink own idx yX5_told ∈ bigW) (hR : 8 ≤ R.frames ∧ 135 ≤ R.locals) (hf : cells + 1 ≤ R.cells ∧ slots + 6 ≤ R.slots) (hz : ls.size = nL) (hw : (rest.map fun v => v.category).sum ≤ 8) (hS : va_S A0 s.heap H locs) (hd : decode cc pc = .ok (.invokevirtual idx, 3)) (hA : ∀ q, fA 23 ad H.size q → A0 q) (hi : fI 23 ad) (hK : va_K (dC, dI) vwCl [(cI, .int), (cJ, .long)] s) (hP : va_P (dC, dI) vwCl (wC ad cI cJ Bc Bl Pk Pr Pl Pc Pm Gf Gt Gx Gd Gm Ek Er Ea Ex Em Eb Et Ss Sm Wg Wr Md) H) (hC : cxt A0 s s.heap) (a0 : Int32) (a1 : Int32) (hs : S_X5_told a0 a1 Bl Pm Gd)  (u : Nat × Int32) (hu : u = f_X5_told a0 a1 Bl Pm Gd) (kx : ∀ {E : String} (hE : E = exN u.1) (ho : ¬ u.1 = 0) (H1 : Heap) (locs1 : List Loc), va_P (dC, dI) vwCl (wC ad cI cJ Bc Bl Pk Pr Pl Pc Pm Gf Gt Gx Gd Gm Ek Er Ea Ex Em Eb Et Ss Sm Wg Wr Md) H1 → va_S A0 s.heap H1 locs1 → ∀ (ce : Cell) (q9 : Addr), H1[q9]? = some ce → ce.vm = .none → s.vm.findClass E = some ce.cls → vx_W p l e R s m args below meth c H1 locs1 (cells + 1) (slots + 6) Q (F0 m pc ls rest) q9) (k : u.1 = 0 → ∀ (H1 : Heap) (locs1 : List Loc), va_P (dC, dI) vwCl (wC ad cI cJ Bc Bl Pk Pr Pl Pc Pm Gf Gt Gx Gd Gm Ek Er Ea Ex Em Eb Et Ss Sm Wg Wr Md) H1 → va_S A0 s.heap H1 locs1 → W p l e R s m args below meth c H1 locs1 (cells + 1) (slots + 6) Q (F0 m (pc + 3) ls (.int u.2 :: rest))) : W p l e R s m args below meth c H locs cells slots Q (F0 m pc ls (.int a1 :: .int a0 :: .ref (ad 0) :: rest)) := by
  subst hu
  exact vx_calli (vx_runV (As := [.int a0, .int a1]) (rest := rest) ⟨hx, hb, hml, hown, hts⟩ (c_X5_told l hst dC dI cI cJ ad hi H.size Bc Bl Pk Pr Pl Pc Pm Gf Gt Gx Gd Gm Ek Er Ea Ex Em Eb Et Ss Sm Wg Wr Md a0 a1 hs) (kV 2 hts hlk mI_X5_told mN_RX5 mY_X5_told mV_X5_told rfl rfl (by decide +kernel) hR) ⟨fun a U g mk q => ⟨q.1, q.2.1, q.2.2.1, va_K.moved (u := U) (U := U.calling g mk a) (Vm.Alike.refl U.vm) q.2.2.2.1, q.2.2.2.2.call⟩, va_recv hK hP (ci := 7) (q0 := 0) rfl rfl, fun U hU hW => ⟨rfl, by rw [hU], by rw [hU]; exact hP, va_K.moved hW.alike hK, hC.here hS hU hW hA⟩⟩ rfl rfl hz rfl (lv_room hw) hd hf) hS (fun q _ h => hA q h) (fun q h => hA q h) (fun q _ h => hA q h) (fun E ce q9 u t H1 locs1 ht hvm hw9 hB hz1 hk1 hS1 h1 h2 h3 => kx hB.1 hw9 H1 locs1 (by rw [← ht]; exact hB.2) hS1 ce q9 h1 h2 h3) (fun r u t H1 locs1 ht hvm hw9 hB hz1 hk1 hS1 => by
    obtain ⟨e1, rfl⟩ := hw9
    exact k e1 H1 locs1 (by rw [← ht]; exact hB) hS1)
theorem qf_X5_told {p : Program} {l : Launch} {e : Env} {R : Room} {s : State} {m : MethodId} {args : Array Value} {below : List Frame} {meth : Method} {c : Code} {H : Heap} {locs : List Loc} {cells slots : Nat} {Q : State → Prop} {pc : Nat} {ls : Array Slot} {rest : List Value} {cc : ByteArray} {nL idx : Nat} {own : String} {A0 : Nat → Prop} {dC : Nat → ClassId} {dI : Nat → Nat → Nat} {cI cJ : ClassId} {ad : Nat → Nat} {Bc : Nat → Int64} {Bl : Nat → Int32} {Pk : Nat → Int32} {Pr : Nat → Int32} {Pl : Nat → Int32} {Pc : Nat → Int64} {Pm : Int32} {Gf : Nat → Int32} {Gt : Nat → Int32} {Gx : Nat → Int32} {Gd : Int32} {Gm : Int32} {Ek : Nat → Int32} {Er : Nat → Int32} {Ea : Nat → Int32} {Ex : Nat → Int32} {Em : Int32} {Eb : Int32} {Et : Int32} {Ss : Nat → Int32} {Sm : Int32} {Wg : Nat → Int64} {Wr : Nat → Int64} {Md : Nat → Int64} (hst : l.stackTraces = false) (hx : p.tables.exec = Jvm.exec) (hb : c.code = cc) (hml : c.maxLocals = nL) (hown : s.vm.findClass own = some m.cls) (hts : ∀ w ∈ bigW, w.before args s = true) (hlk : Cond.methodLink own idx yX5_told ∈ bigW) (hR : 8 ≤ R.frames ∧ 135 ≤ R.locals) (hf : cells + 1 ≤ R.cells ∧ slots + 6 ≤ R.slots) (hz : ls.size = nL) (hw : (rest.map fun v => v.category).sum ≤ 8) (hS : va_S A0 s.heap H locs) (hd : decode cc pc = .ok (.invokevirtual idx, 3)) (hA : ∀ q, fA 23 ad H.size q → A0 q) (hi : fI 23 ad) (hK : va_K (dC, dI) vwCl [(cI, .int), (cJ, .long)] s) (hP : va_P (dC, dI) vwCl (wC ad cI cJ Bc Bl Pk Pr Pl Pc Pm Gf Gt Gx Gd Gm Ek Er Ea Ex Em Eb Et Ss Sm Wg Wr Md) H) (hC : cxt A0 s s.heap) (a0 : Int32) (a1 : Int32) (hs : S_X5_told a0 a1 Bl Pm Gd)  (u : Nat × Int32) (hu : u = f_X5_told a0 a1 Bl Pm Gd) (kx : ∀ {E : String} (hE : E = exN u.1) (ho : ¬ u.1 = 0) (H1 : Heap) (locs1 : List Loc), va_P (dC, dI) vwCl (wC ad cI cJ Bc Bl Pk Pr Pl Pc Pm Gf Gt Gx Gd Gm Ek Er Ea Ex Em Eb Et Ss Sm Wg Wr Md) H1 → va_S A0 s.heap H1 locs1 → (∀ q : Nat, q < H.size → ¬ fA 23 ad H.size q → H1[q]? = H[q]?) → H.size ≤ H1.size → ∀ (ce : Cell) (q9 : Addr), H1[q9]? = some ce → ce.vm = .none → s.vm.findClass E = some ce.cls → vx_W p l e R s m args below meth c H1 locs1 (cells + 1) (slots + 6) Q (F0 m pc ls rest) q9) (k : u.1 = 0 → ∀ (H1 : Heap) (locs1 : List Loc), va_P (dC, dI) vwCl (wC ad cI cJ Bc Bl Pk Pr Pl Pc Pm Gf Gt Gx Gd Gm Ek Er Ea Ex Em Eb Et Ss Sm Wg Wr Md) H1 → va_S A0 s.heap H1 locs1 → (∀ q : Nat, q < H.size → ¬ fA 23 ad H.size q → H1[q]? = H[q]?) → H.size ≤ H1.size → W p l e R s m args below meth c H1 locs1 (cells + 1) (slots + 6) Q (F0 m (pc + 3) ls (.int u.2 :: rest))) : W p l e R s m args below meth c H locs cells slots Q (F0 m pc ls (.int a1 :: .int a0 :: .ref (ad 0) :: rest)) := by
  subst hu
  exact vx_calli (vx_runV (As := [.int a0, .int a1]) (rest := rest) ⟨hx, hb, hml, hown, hts⟩ (c_X5_told l hst dC dI cI cJ ad hi H.size Bc Bl Pk Pr Pl Pc Pm Gf Gt Gx Gd Gm Ek Er Ea Ex Em Eb Et Ss Sm Wg Wr Md a0 a1 hs) (kV 2 hts hlk mI_X5_told mN_RX5 mY_X5_told mV_X5_told rfl rfl (by decide +kernel) hR) ⟨fun a U g mk q => ⟨q.1, q.2.1, q.2.2.1, va_K.moved (u := U) (U := U.calling g mk a) (Vm.Alike.refl U.vm) q.2.2.2.1, q.2.2.2.2.call⟩, va_recv hK hP (ci := 7) (q0 := 0) rfl rfl, fun U hU hW => ⟨rfl, by rw [hU], by rw [hU]; exact hP, va_K.moved hW.alike hK, hC.here hS hU hW hA⟩⟩ rfl rfl hz rfl (lv_room hw) hd hf) hS (fun q _ h => hA q h) (fun q h => hA q h) (fun q _ h => hA q h) (fun E ce q9 u t H1 locs1 ht hvm hw9 hB hz1 hk1 hS1 h1 h2 h3 => kx hB.1 hw9 H1 locs1 (by rw [← ht]; exact hB.2) hS1 hk1 hz1 ce q9 h1 h2 h3) (fun r u t H1 locs1 ht hvm hw9 hB hz1 hk1 hS1 => by
    obtain ⟨e1, rfl⟩ := hw9
    exact k e1 H1 locs1 (by rw [← ht]; exact hB) hS1 hk1 hz1)

def L_X5_writeRow_2 : Nat → Int32 → (Nat → Int32) → Int32 → Int32 → (Nat → Int64) → Int32 × (Nat → Int32) × Int32
  | 0, x2, Ss, Sm, x1, Bc => (x2, Ss, Sm)
  | n + 1, x2, Ss, Sm, x1, Bc => (if (20 : Int32) ≤ x2 then (x2, Ss, Sm) else (if (Bc x1.toNatClampNeg) ≤ x2.toInt64 then (x2, Ss, Sm) else (let u6 := f_X4_write ((Bc ((x1 + (1 : Int32)) + x2).toNatClampNeg).toInt32) Ss Sm; L_X5_writeRow_2 n (x2 + 1) u6.1 u6.2 x1 Bc)))
def SL_X5_writeRow_2 : Nat → Int32 → (Nat → Int32) → Int32 → Int32 → (Nat → Int64) → Prop
  | 0, _, _, _, _, _ => False
  | n + 1, x2, Ss, Sm, x1, Bc => ((20 : Int32) ≤ x2 → (True)) ∧ (¬ (20 : Int32) ≤ x2 → ((vp_in x1 928) ∧ (((Bc x1.toNatClampNeg) ≤ x2.toInt64 → (True)) ∧ (¬ (Bc x1.toNatClampNeg) ≤ x2.toInt64 → ((vp_in ((x1 + (1 : Int32)) + x2) 928) ∧ ((S_X4_write ((Bc ((x1 + (1 : Int32)) + x2).toNatClampNeg).toInt32) Ss Sm) ∧ (∀ u6, u6 = f_X4_write ((Bc ((x1 + (1 : Int32)) + x2).toNatClampNeg).toInt32) Ss Sm → (SL_X5_writeRow_2 n (x2 + 1) u6.1 u6.2 x1 Bc))))))))
def f_X5_writeRow (a0 : Int32) (Bc : Nat → Int64) (Ss : Nat → Int32) (Sm : Int32) : (Nat → Int32) × Int32 := (let u1 := L_X5_writeRow_2 21 (0 : Int32) Ss Sm a0 Bc; (u1.2.1, u1.2.2))
def S_X5_writeRow (a0 : Int32) (Bc : Nat → Int64) (Ss : Nat → Int32) (Sm : Int32) : Prop := (SL_X5_writeRow_2 21 (0 : Int32) Ss Sm a0 Bc) ∧ (∀ u1, u1 = L_X5_writeRow_2 21 (0 : Int32) Ss Sm a0 Bc → (True))
set_option maxHeartbeats 4000000 in
set_option maxRecDepth 100000 in
theorem c_X5_writeRow (l : Launch) (dC : Nat → ClassId) (dI : Nat → Nat → Nat) (cI cJ : ClassId) (ad : Nat → Nat) (hi : fI 23 ad) (sz : Nat) (Bc : Nat → Int64) (Bl : Nat → Int32) (Pk : Nat → Int32) (Pr : Nat → Int32) (Pl : Nat → Int32) (Pc : Nat → Int64) (Pm : Int32) (Gf : Nat → Int32) (Gt : Nat → Int32) (Gx : Nat → Int32) (Gd : Int32) (Gm : Int32) (Ek : Nat → Int32) (Er : Nat → Int32) (Ea : Nat → Int32) (Ex : Nat → Int32) (Em : Int32) (Eb : Int32) (Et : Int32) (Ss : Nat → Int32) (Sm : Int32) (Wg : Nat → Int64) (Wr : Nat → Int64) (Md : Nat → Int64) (a0 : Int32) (hs : S_X5_writeRow a0 Bc Ss Sm) : Met l yX5_writeRow (mW yX5_writeRow cX5_writeRow 3 none) { frames := 1, cells := 0, slots := 0, locals := 21 } (va_Pc [.ref (ad 0), .int a0] (fun U => U.heap.size = sz ∧ va_P (dC, dI) vwCl (wC ad cI cJ Bc Bl Pk Pr Pl Pc Pm Gf Gt Gx Gd Gm Ek Er Ea Ex Em Eb Et Ss Sm Wg Wr Md) U.heap ∧ va_K (dC, dI) vwCl [(cI, .int), (cJ, .long)] U)) (va_Qv (fun (_ : Unit) => True) (fun _ t => va_P (dC, dI) vwCl (wC ad cI cJ Bc Bl Pk Pr Pl Pc Pm Gf Gt Gx Gd Gm Ek Er Ea Ex Em Eb Et ((f_X5_writeRow a0 Bc Ss Sm).1) ((f_X5_writeRow a0 Bc Ss Sm).2) Wg Wr Md) t.heap) (fA 23 ad sz)) 0 0 (fA 23 ad sz) := by
  refine Met.ofW (cc := cX5_writeRow) (maxL := 3) (ret := none) (by decide) rfl ?_
  intro p e s m args below meth c s₁ B hml hv
  obtain ⟨rfl, hsz, hP, hK⟩ := hv
  have hx := B.exec
  have hb := B.bytes
  have hr := B.returns
  have hts := mW_hts (atoms_spec (ws := (mW yX5_writeRow cX5_writeRow 3 none)) B.pre)
  have hown : s.vm.findClass RX5 = some m.cls := findClass_of_methodNamed B.named
  have hlocks := B.notSynchronized
  subst hsz
  have hA : ∀ (n : Nat) (q : Nat), s.heap.size ≤ n → n ≤ q → fA 23 ad s.heap.size q := fun n q h1 h2 => Or.inr (Nat.le_trans h1 h2)
  have hS : va_S (fA 23 ad s.heap.size) s.heap s.heap [] := va_S.rf
  have hA : ∀ q, s.heap.size ≤ q → (fA 23 ad s.heap.size) q := fun q h => Or.inr h
  unfold S_X5_writeRow at hs
  have hl := lv_entry ([.ref (ad 0), .int a0]) (n := 3) (Nat.le_of_ble_eq_true rfl)
  rw [lg_entry_eq]
  generalize (lg_sl ([.ref (ad 0), .int a0]) ++ List.replicate (3 - (lg_sl ([.ref (ad 0), .int a0])).length) Slot.unset).toArray = ls at hl ⊢
  have hl : lv_has ls 3 [(0, .ref (ad 0)), (1, .int a0)] := hl
  refine W_gen (fun Q9 hQ9 => ?_)
  refine lv_iconst (v := 0) hx hb dX5_writeRow_0 (by decide) ?_
  refine lv_istore_n (lv' := [(2, .int (0 : Int32)), (0, .ref (ad 0)), (1, .int a0)]) hx hb dX5_writeRow_1 rfl hl (by decide) rfl (fun ls hl => ?_)
  obtain ⟨h2, hs⟩ := hs
  obtain ⟨u1, hu1⟩ : ∃ z, z = L_X5_writeRow_2 21 (0 : Int32) Ss Sm a0 Bc := ⟨_, rfl⟩
  have hs := hs u1 hu1
  have hex3 : ∀ (H : Heap) (locs : List Loc) (ls : Array Slot), va_P (dC, dI) vwCl (wC ad cI cJ Bc Bl Pk Pr Pl Pc Pm Gf Gt Gx Gd Gm Ek Er Ea Ex Em Eb Et u1.2.1 u1.2.2 Wg Wr Md) H → va_S (fA 23 ad s.heap.size) s.heap H locs → lv_has ls 3 [(2, .int u1.1), (0, .ref (ad 0)), (1, .int a0)] → W p l e (headSpec (mW yX5_writeRow cX5_writeRow 3 none) { frames := 1, cells := 0, slots := 0, locals := 21 }).room s m ([.ref (ad 0), .int a0] : List Value).toArray below meth c H locs 0 0 Q9 (F0 m 50 ls []) := by
    intro H locs ls hP hS hl
    rw [hQ9]
    have hf : f_X5_writeRow a0 Bc Ss Sm = (u1.2.1, u1.2.2) := by simp only [f_X5_writeRow, ← hu1]
    exact W.vret hx hb hr (fun t ht hW => ⟨⟨(), rfl, True.intro, by rw [hf]; show va_P (dC, dI) vwCl _ t.heap; rw [ht]; exact hP⟩, hS.F ht⟩) hS.2.2 dX5_writeRow_50
  have hlp4 : ∀ (n : Nat) (x2v : Int32) (Ssv : Nat → Int32) (Smv : Int32) (H : Heap) (locs : List Loc) (ls : Array Slot), SL_X5_writeRow_2 n x2v Ssv Smv a0 Bc → u1 = L_X5_writeRow_2 n x2v Ssv Smv a0 Bc → va_P (dC, dI) vwCl (wC ad cI cJ Bc Bl Pk Pr Pl Pc Pm Gf Gt Gx Gd Gm Ek Er Ea Ex Em Eb Et Ssv Smv Wg Wr Md) H → va_S (fA 23 ad s.heap.size) s.heap H locs → lv_has ls 3 [(2, .int x2v), (0, .ref (ad 0)), (1, .int a0)] → W p l e (headSpec (mW yX5_writeRow cX5_writeRow 3 none) { frames := 1, cells := 0, slots := 0, locals := 21 }).room s m ([.ref (ad 0), .int a0] : List Value).toArray below meth c H locs 0 0 Q9 (F0 m 2 ls []) := by
    intro n
    induction n with
    | zero => intro x2v Ssv Smv H locs ls hs; rw [SL_X5_writeRow_2] at hs; exact hs.elim
    | succ n ih =>
      intro x2v Ssv Smv H locs ls hs hq5 hP hS hl
      rw [SL_X5_writeRow_2] at hs
      refine lv_iload_n hx hb dX5_writeRow_2 rfl (lv_at hl 0 rfl) ?_
      refine lv_bipush (v := 20) hx hb dX5_writeRow_3 (by decide) ?_
      refine lv_icmp_ge (tgt := 50) hx hb dX5_writeRow_5 (by decide) (fun c6 => ?_) (fun c6 => ?_)
      · have hs := hs.1 c6
        have he7 : u1 = (x2v, Ssv, Smv) := by rw [hq5, L_X5_writeRow_2]; simp only [if_pos c6, ↓reduceIte]
        exact hex3 _ _ _ (by first | exact hP | (rw [he7]; exact hP)) hS (by first | exact lv_sub hl [0, 1, 2] rfl | (rw [he7]; exact lv_sub hl [0, 1, 2] rfl))
      · have hs := hs.2 c6
        refine lv_iload_n hx hb dX5_writeRow_8 rfl (lv_at hl 0 rfl) ?_
        refine lv_i2l hx hb dX5_writeRow_9 rfl ?_
        refine lv_aload_n hx hb dX5_writeRow_10 rfl (lv_at hl 1 rfl) ?_
        refine va_get (D := (dC, dI)) (ci := 7) (v := .ref (ad 1)) (C := RX5) (T := TX5) (N := 8) hx hb hts iW_X5 hown hK hP 0 rfl rfl 0 (by decide) (hts _ mF_RX5_10) (fun _ h9 => h9) rfl dX5_writeRow_11 ?_
        refine va_get (D := (dC, dI)) (ci := 2) (v := .ref (ad 2)) (C := RX0) (T := TX0) (N := 2) hx hb hts iW_X0 hown hK hP 1 rfl rfl 0 (by decide) (hts _ mF_RX5_99) (fun _ h9 => h9) rfl dX5_writeRow_14 ?_
        refine lv_iload_n hx hb dX5_writeRow_17 rfl (lv_at hl 2 rfl) ?_
        obtain ⟨h8, hs⟩ := hs
        refine va_lald hx hb hK hP 2 1 rfl rfl h8 dX5_writeRow_18 ?_
        refine W.lcmp hx hb dX5_writeRow_19 ?_
        refine lv_if_ge (tgt := 50) hx hb dX5_writeRow_20 (by decide) (fun c9 => ?_) (fun c9 => ?_)
        · have c9 : (Bc a0.toNatClampNeg) ≤ x2v.toInt64 := lc_ge.mp c9
          have hs := hs.1 c9
          have he10 : u1 = (x2v, Ssv, Smv) := by rw [hq5, L_X5_writeRow_2]; simp only [if_neg c6, if_pos c9, ↓reduceIte]
          exact hex3 _ _ _ (by first | exact hP | (rw [he10]; exact hP)) hS (by first | exact lv_sub hl [0, 1, 2] rfl | (rw [he10]; exact lv_sub hl [0, 1, 2] rfl))
        · have c9 : ¬ (Bc a0.toNatClampNeg) ≤ x2v.toInt64 := fun z => c9 (lc_ge.mpr z)
          have hs := hs.2 c9
          refine lv_aload_n hx hb dX5_writeRow_23 rfl (lv_at hl 1 rfl) ?_
          refine va_get (D := (dC, dI)) (ci := 7) (v := .ref (ad 18)) (C := RX5) (T := TX5) (N := 8) hx hb hts iW_X5 hown hK hP 0 rfl rfl 4 (by decide) (hts _ mF_RX5_40) (fun _ h9 => h9) rfl dX5_writeRow_24 ?_
          refine lv_aload_n hx hb dX5_writeRow_27 rfl (lv_at hl 1 rfl) ?_
          refine va_get (D := (dC, dI)) (ci := 7) (v := .ref (ad 1)) (C := RX5) (T := TX5) (N := 8) hx hb hts iW_X5 hown hK hP 0 rfl rfl 0 (by decide) (hts _ mF_RX5_10) (fun _ h9 => h9) rfl dX5_writeRow_28 ?_
          refine va_get (D := (dC, dI)) (ci := 2) (v := .ref (ad 2)) (C := RX0) (T := TX0) (N := 2) hx hb hts iW_X0 hown hK hP 1 rfl rfl 0 (by decide) (hts _ mF_RX5_99) (fun _ h9 => h9) rfl dX5_writeRow_31 ?_
          refine lv_iload_n hx hb dX5_writeRow_34 rfl (lv_at hl 2 rfl) ?_
          refine lv_iconst (v := 1) hx hb dX5_writeRow_35 (by decide) ?_
          refine lv_iadd hx hb dX5_writeRow_36 ?_
          refine lv_iload_n hx hb dX5_writeRow_37 rfl (lv_at hl 0 rfl) ?_
          refine lv_iadd hx hb dX5_writeRow_38 ?_
          obtain ⟨h11, hs⟩ := hs
          refine va_lald hx hb hK hP 2 1 rfl rfl h11 dX5_writeRow_39 ?_
          refine lv_l2i hx hb dX5_writeRow_40 rfl ?_
          obtain ⟨h12, hs⟩ := hs
          obtain ⟨u13, hu13⟩ : ∃ z, z = f_X4_write ((Bc ((a0 + (1 : Int32)) + x2v).toNatClampNeg).toInt32) Ssv Smv := ⟨_, rfl⟩
          have hs := hs u13 hu13
          refine q_X4_write hx hb hml hown hts mM_RX5_338 ⟨Nat.le_of_ble_eq_true rfl, Nat.le_of_ble_eq_true rfl⟩ ⟨Nat.le_of_ble_eq_true rfl, Nat.le_of_ble_eq_true rfl⟩ hl.1 (Nat.le_of_ble_eq_true rfl) hS dX5_writeRow_41 (fun _ h9 => fA_mono hS.1 h9) hi hK hP ((Bc ((a0 + (1 : Int32)) + x2v).toNatClampNeg).toInt32) h12 u13 hu13 (fun H locs hP hS => ?_)
          refine lv_iinc (v := (x2v + 1)) (lv' := [(2, .int (x2v + 1)), (0, .ref (ad 0)), (1, .int a0)]) hx hb dX5_writeRow_44 hl (k := 0) rfl rfl (by decide) rfl (fun ls hl => ?_)
          refine lv_goto (tgt := 2) hx hb dX5_writeRow_47 (by decide) ?_
          exact ih (x2v + 1) u13.1 u13.2 _ _ _ hs (by rw [hq5, L_X5_writeRow_2]; simp only [if_neg c6, if_neg c9, ← hu13, ↓reduceIte]) hP hS (lv_sub hl [0, 1, 2] rfl)
  exact hlp4 21 (0 : Int32) Ss Sm _ _ _ h2 hu1 hP hS (lv_sub hl [0, 1, 2] rfl)
theorem q_X5_writeRow {p : Program} {l : Launch} {e : Env} {R : Room} {s : State} {m : MethodId} {args : Array Value} {below : List Frame} {meth : Method} {c : Code} {H : Heap} {locs : List Loc} {cells slots : Nat} {Q : State → Prop} {pc : Nat} {ls : Array Slot} {rest : List Value} {cc : ByteArray} {nL idx : Nat} {own : String} {A0 : Nat → Prop} {dC : Nat → ClassId} {dI : Nat → Nat → Nat} {cI cJ : ClassId} {ad : Nat → Nat} {Bc : Nat → Int64} {Bl : Nat → Int32} {Pk : Nat → Int32} {Pr : Nat → Int32} {Pl : Nat → Int32} {Pc : Nat → Int64} {Pm : Int32} {Gf : Nat → Int32} {Gt : Nat → Int32} {Gx : Nat → Int32} {Gd : Int32} {Gm : Int32} {Ek : Nat → Int32} {Er : Nat → Int32} {Ea : Nat → Int32} {Ex : Nat → Int32} {Em : Int32} {Eb : Int32} {Et : Int32} {Ss : Nat → Int32} {Sm : Int32} {Wg : Nat → Int64} {Wr : Nat → Int64} {Md : Nat → Int64} (hx : p.tables.exec = Jvm.exec) (hb : c.code = cc) (hml : c.maxLocals = nL) (hown : s.vm.findClass own = some m.cls) (hts : ∀ w ∈ bigW, w.before args s = true) (hlk : Cond.methodLink own idx yX5_writeRow ∈ bigW) (hR : 2 ≤ R.frames ∧ 43 ≤ R.locals) (hf : cells + 0 ≤ R.cells ∧ slots + 0 ≤ R.slots) (hz : ls.size = nL) (hw : (rest.map fun v => v.category).sum ≤ 8) (hS : va_S A0 s.heap H locs) (hd : decode cc pc = .ok (.invokevirtual idx, 3)) (hA : ∀ q, fA 23 ad H.size q → A0 q) (hi : fI 23 ad) (hK : va_K (dC, dI) vwCl [(cI, .int), (cJ, .long)] s) (hP : va_P (dC, dI) vwCl (wC ad cI cJ Bc Bl Pk Pr Pl Pc Pm Gf Gt Gx Gd Gm Ek Er Ea Ex Em Eb Et Ss Sm Wg Wr Md) H) (a0 : Int32) (hs : S_X5_writeRow a0 Bc Ss Sm)  (u : (Nat → Int32) × Int32) (hu : u = f_X5_writeRow a0 Bc Ss Sm) (k : ∀ (H1 : Heap) (locs1 : List Loc), va_P (dC, dI) vwCl (wC ad cI cJ Bc Bl Pk Pr Pl Pc Pm Gf Gt Gx Gd Gm Ek Er Ea Ex Em Eb Et u.1 u.2 Wg Wr Md) H1 → va_S A0 s.heap H1 locs1 → W p l e R s m args below meth c H1 locs1 (cells + 0) (slots + 0) Q (F0 m (pc + 3) ls (rest))) : W p l e R s m args below meth c H locs cells slots Q (F0 m pc ls (.int a0 :: .ref (ad 0) :: rest)) := by
  subst hu
  exact va_callv (va_runV (As := [.int a0]) (rest := rest) ⟨hx, hb, hml, hown, hts⟩ (c_X5_writeRow l dC dI cI cJ ad hi H.size Bc Bl Pk Pr Pl Pc Pm Gf Gt Gx Gd Gm Ek Er Ea Ex Em Eb Et Ss Sm Wg Wr Md a0 hs) (kV 1 hts hlk mI_X5_writeRow mN_RX5 mY_X5_writeRow mV_X5_writeRow rfl rfl (by decide +kernel) hR) ⟨fun a U g mk q => ⟨q.1, q.2.1, q.2.2.1, va_K.moved (u := U) (U := U.calling g mk a) (Vm.Alike.refl U.vm) q.2.2.2⟩, va_recv hK hP (ci := 7) (q0 := 0) rfl rfl, fun U hU hW => ⟨rfl, by rw [hU], by rw [hU]; exact hP, va_K.moved hW.alike hK⟩⟩ rfl rfl hz rfl (lv_room hw) hd hf) hS (fun q _ h => hA q h) (fun q h => hA q h) (fun u t H1 locs1 ht hvm hw9 hB hz1 hk1 hS1 => by
    skip
    exact k H1 locs1 (by rw [← ht]; exact hB) hS1)
