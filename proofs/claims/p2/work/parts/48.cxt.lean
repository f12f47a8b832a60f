/-! what every method takes as given, at the law's entry -/
def fl0 : List Cond := flatC (Jvm.Cond.and given_1 narrow_1)
def lays0 (n d : String) : Cond := Cond.laysStatic "RegisterRows" n d
theorem sAof {args : Array Value} {s : State} {n d : String} {ty : FieldType} {N : Nat} {f : Nat → Value} {A : Nat → Prop} (hN : N < 2 ^ 31) (hl : (Cond.laysStatic "RegisterRows" n d).before args s = true) (hini : (Cond.initialized "RegisterRows").before args s = true) (harr : (Cond.arrayOf (.static "RegisterRows" n d) ty).before args s = true) (hlen : (Cond.eq (.length (.static "RegisterRows" n d)) (.int (Int32.ofNat N))).before args s = true) (hel : ∀ j : Nat, j < N → (Term.elem (.static "RegisterRows" n d) (.int (Int32.ofNat j))).eval args s none [] s = some (f j)) (hA : ∀ a : Nat, a < s.heap.size → ¬ A a) : sA n d ty N f A s s.heap := by
  obtain ⟨t, ht, hT⟩ := va_Tof (A := A) hN harr (va_eqt hlen) hel hA
  exact ⟨t, va_Zof hl hini ht hA, hT⟩
theorem strR {args : Array Value} {s : State} {i : Nat} {tx : String} (hr : (Cond.stringRef "RegisterRows" i tx).before args s = true) (hex : (Cond.exactly (.string "RegisterRows" i) "java/lang/String").before args s = true) : ∃ a, vk_R "RegisterRows" i tx a s := by
  obtain ⟨a, c, cA, kA, q1, -⟩ := Cond.exactly_spec (args := args) (first := s) (o := none) (s := s) (idx := []) (t := .string "RegisterRows" i) (cls := "java/lang/String") hex
  exact ⟨a, vk_R.of hr q1⟩
theorem stOf {args : Array Value} {s : State} {i : Nat} {tx : String} {bs : List Int32} {A : Nat → Prop} (hN : bs.length < 2 ^ 31) (hr : (Cond.stringRef "RegisterRows" i tx).before args s = true) (hex : (Cond.exactly (.string "RegisterRows" i) "java/lang/String").before args s = true) (hco : (Cond.eq (.field (.string "RegisterRows" i) "java/lang/String" "coder" "B") (.int 0)).before args s = true)
    (har : (Cond.arrayOf (.field (.string "RegisterRows" i) "java/lang/String" "value" "[B") .byte).before args s = true) (hle : (Cond.eq (.length (.field (.string "RegisterRows" i) "java/lang/String" "value" "[B")) (.int (Int32.ofNat bs.length))).before args s = true)
    (hel : ∀ j : Nat, j < bs.length → (Cond.eq (.elem (.field (.string "RegisterRows" i) "java/lang/String" "value" "[B") (.int (Int32.ofNat j))) (.int (bs.getD j 0))).before args s = true) (hA : ∀ a : Nat, a < s.heap.size → ¬ A a) : ∃ q v, vk_R "RegisterRows" i tx q s ∧ stO q v bs A s s.heap := by
  obtain ⟨a, c, cA, kA, q1, q2, q3, q4, q5, q6, -⟩ := Cond.exactly_spec (args := args) (first := s) (o := none) (s := s) (idx := []) (t := .string "RegisterRows" i) (cls := "java/lang/String") hex
  obtain ⟨t, ht, hT⟩ := va_Tof (f := fun j => .int (bs.getD j 0)) (A := A) hN har (va_eqt hle) (fun j hj => va_eqt (hel j hj)) hA
  exact ⟨a, t, vk_R.of hr q1, ⟨cA, q3, q5, by rw [q6]; exact q2, hA a (Array.getElem?_eq_some_iff.mp q3).1⟩, vk_OFof q1 (va_eqt hco) hA, vk_OFof q1 ht hA, hT⟩

section
set_option maxRecDepth 100000
theorem in_HOMES : Cond.laysStatic "RegisterRows" "HOMES" "[I" ∈ lw_tbl ∧ Cond.arrayOf (.static "RegisterRows" "HOMES" "[I") .int ∈ fl0 ∧ Cond.eq (.length (.static "RegisterRows" "HOMES" "[I")) (.int (Int32.ofNat 5)) ∈ fl0 ∧ ∀ j, j < 5 → Cond.eq (.elem (.static "RegisterRows" "HOMES" "[I") (.int (Int32.ofNat j))) (.int (lHOMES.getD j 0)) ∈ fl0 := by decide +kernel
theorem in_WIDTHS : Cond.laysStatic "RegisterRows" "WIDTHS" "[I" ∈ lw_tbl ∧ Cond.arrayOf (.static "RegisterRows" "WIDTHS" "[I") .int ∈ fl0 ∧ Cond.eq (.length (.static "RegisterRows" "WIDTHS" "[I")) (.int (Int32.ofNat 5)) ∈ fl0 ∧ ∀ j, j < 5 → Cond.eq (.elem (.static "RegisterRows" "WIDTHS" "[I") (.int (Int32.ofNat j))) (.int (lWIDTHS.getD j 0)) ∈ fl0 := by decide +kernel
theorem in_NUMERATORS : Cond.laysStatic "RegisterRows" "NUMERATORS" "[J" ∈ lw_tbl ∧ Cond.arrayOf (.static "RegisterRows" "NUMERATORS" "[J") .long ∈ fl0 ∧ Cond.eq (.length (.static "RegisterRows" "NUMERATORS" "[J")) (.int (Int32.ofNat 8)) ∈ fl0 ∧ ∀ j, j < 8 → Cond.eq (.elem (.static "RegisterRows" "NUMERATORS" "[J") (.int (Int32.ofNat j))) (.long (lNUMS.getD j 0)) ∈ fl0 := by decide +kernel
theorem in_DENOMINATORS : Cond.laysStatic "RegisterRows" "DENOMINATORS" "[J" ∈ lw_tbl ∧ Cond.arrayOf (.static "RegisterRows" "DENOMINATORS" "[J") .long ∈ fl0 ∧ Cond.eq (.length (.static "RegisterRows" "DENOMINATORS" "[J")) (.int (Int32.ofNat 8)) ∈ fl0 ∧ ∀ j, j < 8 → Cond.eq (.elem (.static "RegisterRows" "DENOMINATORS" "[J") (.int (Int32.ofNat j))) (.long (lDENS.getD j 0)) ∈ fl0 := by decide +kernel
theorem in_ini : Cond.initialized "RegisterRows" ∈ lw_tbl ∧ Cond.initialized Bundle.tN ∈ lw_tbl ∧ Cond.initialized "java/lang/String" ∈ lw_tbl ∧ Cond.initialized "jdk/internal/util/Preconditions" ∈ lw_tbl := by decide +kernel
theorem in_thr : (Cond.laysStatic Bundle.tN "UNASSIGNED_STACK" Bundle.steD ∈ lw_tbl ∧ Cond.isRef (.static Bundle.tN "UNASSIGNED_STACK" Bundle.steD) ∈ fl0) ∧ (Cond.laysStatic Bundle.tN "SUPPRESSED_SENTINEL" Bundle.listD ∈ lw_tbl ∧ Cond.isRef (.static Bundle.tN "SUPPRESSED_SENTINEL" Bundle.listD) ∈ fl0) := by decide +kernel
theorem in_nest : Cond.fieldLinkNest "RegisterRows$Bank" 25 "RegisterRows" "HOMES" "[I" "RegisterRows" ∈ lw_tbl ∧ Cond.fieldLinkNest "RegisterRows$Bank" 28 "RegisterRows" "WIDTHS" "[I" "RegisterRows" ∈ lw_tbl ∧ Cond.fieldLinkNest "RegisterRows$Pile" 40 "RegisterRows" "WIDTHS" "[I" "RegisterRows" ∈ lw_tbl := by decide +kernel
theorem in_nst2 : Cond.methodLinkNest RX5 18 yX3_init RX5 ∈ lw_tbl ∧ Cond.methodLinkNest RX5 25 yX2_init RX5 ∈ lw_tbl ∧ Cond.methodLinkNest RX5 32 yX1_init RX5 ∈ lw_tbl ∧ Cond.methodLinkNest RX5 39 yX4_init RX5 ∈ lw_tbl := by decide +kernel
theorem in_cast : ∀ C ∈ exNs, Cond.castable C C ∈ lw_tbl := by decide +kernel
theorem in_decl : ∀ C ∈ dcNs, Cond.declares ⟨C, "<init>", "(Ljava/lang/String;)V"⟩ ∈ lw_tbl := by decide +kernel
theorem in_nc : ∀ C ∈ exNs, ∀ T ∈ exNs, C ≠ T → Cond.not (.castable C T) ∈ fl0 := by decide +kernel
theorem in_str : ∀ q ∈ cStr, Cond.stringRef "RegisterRows" q.1 q.2 ∈ lw_tbl ∧ Cond.exactly (.string "RegisterRows" q.1) "java/lang/String" ∈ fl0 := by decide +kernel
theorem in_cs : (Cond.laysStatic "java/lang/String" "COMPACT_STRINGS" "Z" ∈ lw_tbl ∧ Cond.eq (.static "java/lang/String" "COMPACT_STRINGS" "Z") (.int 1) ∈ fl0) ∧ (Cond.laysStatic "jdk/internal/util/Preconditions" "SIOOBE_FORMATTER" "Ljava/util/function/BiFunction;" ∈ lw_tbl ∧ Cond.isRef (.static "jdk/internal/util/Preconditions" "SIOOBE_FORMATTER" "Ljava/util/function/BiFunction;") ∈ fl0) := by decide +kernel
theorem in_txt : ∀ t ∈ tTxt, t.2.2.length < 2 ^ 31 ∧ Cond.stringRef "RegisterRows" t.1 t.2.1 ∈ lw_tbl ∧ Cond.exactly (.string "RegisterRows" t.1) "java/lang/String" ∈ fl0 ∧ Cond.eq (.field (.string "RegisterRows" t.1) "java/lang/String" "coder" "B") (.int 0) ∈ fl0 ∧ Cond.arrayOf (.field (.string "RegisterRows" t.1) "java/lang/String" "value" "[B") .byte ∈ fl0 ∧ Cond.eq (.length (.field (.string "RegisterRows" t.1) "java/lang/String" "value" "[B")) (.int (Int32.ofNat t.2.2.length)) ∈ fl0 ∧ ∀ j, j < t.2.2.length → Cond.eq (.elem (.field (.string "RegisterRows" t.1) "java/lang/String" "value" "[B") (.int (Int32.ofNat j))) (.int (t.2.2.getD j 0)) ∈ fl0 := by decide +kernel
theorem iW_Jx : ∀ w ∈ wsJx000600, w ∈ bigW := by decide +kernel
end
theorem cxt_at {args : Array Value} {s : State} (ht : ∀ w ∈ lw_tbl, w.before args s = true) (hg : (Jvm.Cond.and given_1 narrow_1).before args s = true) : cxt (nA s) s s.heap := by
  have hf : ∀ w ∈ fl0, w.before args s = true := flat_of_before _ hg
  have hA : ∀ a : Nat, a < s.heap.size → ¬ nA s a := fun a h => Nat.not_le.mpr h
  obtain ⟨i1, i2, i3, i4⟩ := in_ini
  refine ⟨vx_Zqof (ht _ in_thr.1.1) (ht _ i2) (hf _ in_thr.1.2) hA, vx_Zqof (ht _ in_thr.2.1) (ht _ i2) (hf _ in_thr.2.2) hA, ?_, ?_, ?_, ?_, ⟨va_Nw.of rfl (ht _ in_nest.1), va_Nw.of rfl (ht _ in_nest.2.1), va_Nw.of rfl (ht _ in_nest.2.2)⟩, fun C hC => va_Nw.of rfl (ht _ (in_cast C hC)), fun C hC => va_Nw.of rfl (ht _ (in_decl C hC)), fun C hC T hT hn => va_Nc.of (hf _ (in_nc C hC T hT hn)), fun q hq => strR (ht _ (in_str q hq).1) (hf _ (in_str q hq).2), ⟨va_Zof (ht _ in_cs.1.1) (ht _ i3) (va_eqt (hf _ in_cs.1.2)) hA, va_Zqof (ht _ in_cs.2.1) (ht _ i4) (hf _ in_cs.2.2) hA⟩, fun t hq => ?_⟩
  · exact sAof (by decide) (ht _ in_HOMES.1) (ht _ i1) (hf _ in_HOMES.2.1) (hf _ in_HOMES.2.2.1) (fun j hj => va_eqt (hf _ (in_HOMES.2.2.2 j hj))) hA
  · exact sAof (by decide) (ht _ in_WIDTHS.1) (ht _ i1) (hf _ in_WIDTHS.2.1) (hf _ in_WIDTHS.2.2.1) (fun j hj => va_eqt (hf _ (in_WIDTHS.2.2.2 j hj))) hA
  · exact sAof (by decide) (ht _ in_NUMERATORS.1) (ht _ i1) (hf _ in_NUMERATORS.2.1) (hf _ in_NUMERATORS.2.2.1) (fun j hj => va_eqtl (hf _ (in_NUMERATORS.2.2.2 j hj))) hA
  · exact sAof (by decide) (ht _ in_DENOMINATORS.1) (ht _ i1) (hf _ in_DENOMINATORS.2.1) (hf _ in_DENOMINATORS.2.2.1) (fun j hj => va_eqtl (hf _ (in_DENOMINATORS.2.2.2 j hj))) hA
  · obtain ⟨h0, h1, h2, h3, h4, h5, h6⟩ := in_txt t hq
    exact stOf h0 (ht _ h1) (hf _ h2) (hf _ h3) (hf _ h4) (hf _ h5) (fun j hj => hf _ (h6 j hj)) hA
