theorem l9 {L i : Nat} (hL : L ≤ 4608) (hi : i ≤ L) : (Int32.ofNat L - 9 < nI i) ↔ L < i + 9 := by
  rw [i32lt, nI_toInt (by omega), Int32.toInt_sub, show (Int32.ofNat L).toInt = (L : Int) from nI_toInt (n := L) (by omega), show (9 : Int32).toInt = 9 from rfl, Int.bmod_def]
  split <;> omega
set_option maxHeartbeats 4000000 in
set_option maxRecDepth 100000 in
/-- the law's loop, at its head: t calls are done -/
theorem law_loop {p : Program} {l : Launch} {e : Env} {s : State} {m : MethodId} {below : List Frame} {meth : Method} {c : Code} {dC : Nat → ClassId} {dI : Nat → Nat → Nat} {cI cJ : ClassId} {ad am : Nat → Nat} {ou b L : Nat} {xs : Nat → Int32} (C0 : LX dC dI cI cJ ad am ou p l s m #[Value.ref b] c b L xs) (hr : meth.sig.returnType = ret) (hlocks : meth.locks = false) :
    ∀ (n t : Nat), 9 * t ≤ L → L < 9 * t + n → ∀ (H : Heap) (locs : List Loc) (ls : Array Slot), LI dC dI cI cJ ad am ou H → va_S (nA s) s.heap H locs → lv_has ls 8 [(4, .int (nI (9 * t))), (3, .ref ou), (2, .ref (am 0)), (1, .ref (ad 0)), (0, .ref b)] → W p l e room_1 s m #[Value.ref b] below meth c H locs (41 + 6 * t) (15897 + 36 * t) (lw_Z below #[Value.ref b] s) (F0 m 23 ls []) := by
  obtain ⟨hst, hx, hb, hml, hown, hts, ⟨hX, hbl, hL⟩, -⟩ := id C0
  have hbA : ¬ nA s b := Nat.not_le.mpr hbl
  intro n
  induction n with
  | zero => intro t h1 h2; exact absurd h2 (by omega)
  | succ n ih =>
    intro t h1 h2 H locs ls I hS hl
    refine lv_iload hx hb dL_law_23 (lv_at hl 0 rfl) ?_
    refine lv_aload_n hx hb dL_law_25 rfl (lv_at hl 4 rfl) ?_
    refine va_slen hx hb hX hbl hbA hS dL_law_26 ?_
    refine lv_bipush (v := 9) hx hb dL_law_27 (by decide) ?_
    refine lv_isub hx hb dL_law_29 ?_
    refine lv_icmp_gt (tgt := 1274) hx hb dL_law_30 (by decide) (fun c1 => ?_) (fun c1 => ?_)
    · refine lv_iconst (v := 1) hx hb dL_law_1274 (by decide) ?_
      refine va_forget (fun q hq => hS.2.2 q hq) ?_
      refine W.widen (k := 3133) (n := 134801) (by omega) (by omega) ?_
      exact lw_ret hx hb hr hlocks dL_law_1275
    · have h9 : 9 * t + 9 ≤ L := by
        rcases Nat.lt_or_ge L (9 * t + 9) with z | z
        · exact absurd ((l9 hL h1).mpr z) c1
        · exact z
      refine lv_aload_n hx hb dL_law_33 rfl (lv_at hl 4 rfl) ?_
      refine lv_iload hx hb dL_law_34 (lv_at hl 0 rfl) ?_
      refine va_sld hx hb hX hbl hbA hS (vin (by omega) (by omega)) dL_law_36 ?_
      refine lv_bipush (v := 31) hx hb dL_law_37 (by decide) ?_
      refine lv_iand hx hb dL_law_39 ?_
      refine lv_topi (fun x ex => ?_)
      have hc : 41 + 6 * t + 6 ≤ room_1.cells ∧ 15897 + 36 * t + 36 ≤ room_1.slots := ⟨show 41 + 6 * t + 6 ≤ (3133 : Nat) from by omega, show 15897 + 36 * t + 36 ≤ (134801 : Nat) from by omega⟩
      have go : ∀ (H1 : Heap) (locs1 : List Loc) (ls1 : Array Slot), LI dC dI cI cJ ad am ou H1 → va_S (nA s) s.heap H1 locs1 → lv_has ls1 8 [(4, .int (nI (9 * t))), (3, .ref ou), (2, .ref (am 0)), (1, .ref (ad 0)), (0, .ref b)] → W p l e room_1 s m #[Value.ref b] below meth c H1 locs1 (41 + 6 * t + 6) (15897 + 36 * t + 36) (lw_Z below #[Value.ref b] s) (F0 m 1268 ls1 []) := by
        intro H1 locs1 ls1 I1 hS1 hl1
        refine lv_iinc (v := nI (9 * (t + 1))) (lv' := [(4, .int (nI (9 * (t + 1)))), (3, .ref ou), (2, .ref (am 0)), (1, .ref (ad 0)), (0, .ref b)]) hx hb dL_law_1268 hl1 (k := 0) rfl (nI_add (9 * t) 9) (by decide) rfl (fun ls hl => ?_)
        refine lv_goto (tgt := 23) hx hb dL_law_1271 (by decide) ?_
        have z := ih (t + 1) (by omega) (by omega) H1 locs1 ls I1 hS1 hl
        rw [show 41 + 6 * (t + 1) = 41 + 6 * t + 6 by omega, show 15897 + 36 * (t + 1) = 15897 + 36 * t + 36 by omega] at z
        exact z
      by_cases h19 : 0 ≤ x.toInt ∧ x.toInt ≤ 18
      · obtain ⟨k, hk, ek⟩ := nIr (a := x) (n := 18) h19.1 h19.2 (by omega)
        rw [ek]
        rcases (show k = 0 ∨ k = 1 ∨ k = 2 ∨ k = 3 ∨ k = 4 ∨ k = 5 ∨ k = 6 ∨ k = 7 ∨ k = 8 ∨ k = 9 ∨ k = 10 ∨ k = 11 ∨ k = 12 ∨ k = 13 ∨ k = 14 ∨ k = 15 ∨ k = 16 ∨ k = 17 ∨ k = 18 by omega) with rfl | rfl | rfl | rfl | rfl | rfl | rfl | rfl | rfl | rfl | rfl | rfl | rfl | rfl | rfl | rfl | rfl | rfl | rfl
        · refine lv_tableIn (off := 92) (tgt := 132) hx hb dL_law_40 (by decide) (by decide) (by decide) (by decide) ?_
          exact cs_token C0 h9 I hS hl hc go
        · refine lv_tableIn (off := 120) (tgt := 160) hx hb dL_law_40 (by decide) (by decide) (by decide) (by decide) ?_
          exact cs_glue C0 h9 I hS hl hc go
        · refine lv_tableIn (off := 295) (tgt := 335) hx hb dL_law_40 (by decide) (by decide) (by decide) (by decide) ?_
          exact cs_set C0 h9 I hS hl hc go
        · refine lv_tableIn (off := 407) (tgt := 447) hx hb dL_law_40 (by decide) (by decide) (by decide) (by decide) ?_
          exact cs_get C0 h9 I hS hl hc go
        · refine lv_tableIn (off := 447) (tgt := 487) hx hb dL_law_40 (by decide) (by decide) (by decide) (by decide) ?_
          exact cs_part C0 h9 I hS hl hc go
        · refine lv_tableIn (off := 487) (tgt := 527) hx hb dL_law_40 (by decide) (by decide) (by decide) (by decide) ?_
          exact cs_at C0 h9 I hS hl hc go
        · refine lv_tableIn (off := 527) (tgt := 567) hx hb dL_law_40 (by decide) (by decide) (by decide) (by decide) ?_
          exact cs_add C0 h9 I hS hl hc go
        · refine lv_tableIn (off := 639) (tgt := 679) hx hb dL_law_40 (by decide) (by decide) (by decide) (by decide) ?_
          exact cs_multiply C0 h9 I hS hl hc go
        · refine lv_tableIn (off := 751) (tgt := 791) hx hb dL_law_40 (by decide) (by decide) (by decide) (by decide) ?_
          exact cs_divide C0 h9 I hS hl hc go
        · refine lv_tableIn (off := 863) (tgt := 903) hx hb dL_law_40 (by decide) (by decide) (by decide) (by decide) ?_
          exact cs_take C0 h9 I hS hl hc go
        · refine lv_tableIn (off := 891) (tgt := 931) hx hb dL_law_40 (by decide) (by decide) (by decide) (by decide) ?_
          exact cs_group C0 h9 I hS hl hc go
        · refine lv_tableIn (off := 907) (tgt := 947) hx hb dL_law_40 (by decide) (by decide) (by decide) (by decide) ?_
          exact cs_after C0 h9 I hS hl hc go
        · refine lv_tableIn (off := 935) (tgt := 975) hx hb dL_law_40 (by decide) (by decide) (by decide) (by decide) ?_
          exact cs_end C0 h9 I hS hl hc go
        · refine lv_tableIn (off := 951) (tgt := 991) hx hb dL_law_40 (by decide) (by decide) (by decide) (by decide) ?_
          exact cs_restored C0 h9 I hS hl hc go
        · refine lv_tableIn (off := 991) (tgt := 1031) hx hb dL_law_40 (by decide) (by decide) (by decide) (by decide) ?_
          exact cs_behind C0 h9 I hS hl hc go
        · refine lv_tableIn (off := 1016) (tgt := 1056) hx hb dL_law_40 (by decide) (by decide) (by decide) (by decide) ?_
          exact cs_scaled C0 h9 I hS hl hc go
        · refine lv_tableIn (off := 1068) (tgt := 1108) hx hb dL_law_40 (by decide) (by decide) (by decide) (by decide) ?_
          exact cs_fraction C0 h9 I hS hl hc go
        · refine lv_tableIn (off := 1108) (tgt := 1148) hx hb dL_law_40 (by decide) (by decide) (by decide) (by decide) ?_
          exact cs_shown C0 h9 I hS hl hc go
        · refine lv_tableIn (off := 1160) (tgt := 1200) hx hb dL_law_40 (by decide) (by decide) (by decide) (by decide) ?_
          exact cs_told C0 h9 I hS hl hc go
      · refine lv_tableOut (tgt := 1268) hx hb dL_law_40 (by omega) (by decide) ?_
        refine W.widen (k := 41 + 6 * t + 6) (n := 15897 + 36 * t + 36) (by omega) (by omega) ?_
        exact go H locs ls I hS hl
