/-- the object's own cells, by their addresses, and all that is new -/
def fA (n : Nat) (ad : Nat → Nat) (sz : Nat) : Nat → Prop := fun q => (∃ k, k < n ∧ q = ad k) ∨ sz ≤ q
def fI (n : Nat) (ad : Nat → Nat) : Prop := ∀ i j, i < n → j < n → ad i = ad j → i = j
theorem fA_new {n : Nat} {ad : Nat → Nat} {sz q : Nat} (h : sz ≤ q) : fA n ad sz q := Or.inr h
theorem fA_mono {n : Nat} {ad : Nat → Nat} {sz sz' q : Nat} (h : sz ≤ sz') (x : fA n ad sz' q) : fA n ad sz q := x.elim Or.inl (fun y => Or.inr (Nat.le_trans h y))
theorem fA_D {n : Nat} {ad : Nat → Nat} {sz : Nat} {ws : va_W} (hi : fI n ad) (hw : ws.map Prod.fst = (List.range n).map ad) : va_D (fA n ad sz) ws := by
  have key : ∀ (k : Nat) (q : Nat × va_E), ws[k]? = some q → k < n ∧ q.1 = ad k := by
    intro k q hk
    have h1 : (ws.map Prod.fst)[k]? = some q.1 := by rw [List.getElem?_map, hk]; rfl
    rw [hw, List.getElem?_map] at h1
    cases h2 : (List.range n)[k]? with
    | none => rw [h2] at h1; cases h1
    | some z =>
      rw [h2] at h1
      have h3 := List.getElem?_eq_some_iff.mp h2
      obtain ⟨h4, h5⟩ := h3
      rw [List.getElem_range] at h5
      rw [List.length_range] at h4
      subst h5
      exact ⟨h4, (Option.some.inj h1).symm⟩
  refine ⟨fun i j p q hp hq e => ?_, fun k q hk => Or.inl ⟨k, (key k q hk).1, (key k q hk).2⟩⟩
  obtain ⟨a1, a2⟩ := key i p hp
  obtain ⟨b1, b2⟩ := key j q hq
  exact hi i j a1 b1 (by rw [← a2, ← b2, e])
/-- a method that throws leaves this -/
def exN : Nat → String
  | 1 => "java/lang/IllegalArgumentException"
  | 2 => "java/lang/IndexOutOfBoundsException"
  | 3 => "java/lang/UnsupportedOperationException"
  | 4 => "java/lang/IllegalStateException"
  | _ => "java/lang/ArithmeticException"
theorem lc_lt {x y : Int64} : lg_cmp x y < 0 ↔ x < y := by
  unfold lg_cmp
  by_cases h : x > y
  · rw [if_pos h]
    exact ⟨fun z => absurd z (by decide), fun z => absurd (Int64.lt_trans h z) Int64.lt_irrefl⟩
  · rw [if_neg h]
    by_cases h2 : x = y
    · rw [if_pos h2]
      exact ⟨fun z => absurd z (by decide), fun z => absurd (h2 ▸ z) Int64.lt_irrefl⟩
    · rw [if_neg h2]
      exact ⟨fun _ => Int64.lt_of_le_of_ne (Int64.not_lt.mp h) h2, fun _ => by decide⟩
theorem lc_gt {x y : Int64} : 0 < lg_cmp x y ↔ y < x := by
  unfold lg_cmp
  by_cases h : x > y
  · rw [if_pos h]
    exact ⟨fun _ => h, fun _ => by decide⟩
  · rw [if_neg h]
    by_cases h2 : x = y
    · rw [if_pos h2]
      exact ⟨fun z => absurd z (by decide), fun z => absurd z h⟩
    · rw [if_neg h2]
      exact ⟨fun z => absurd z (by decide), fun z => absurd z h⟩
theorem lc_eq {x y : Int64} : lg_cmp x y = 0 ↔ x = y := by
  unfold lg_cmp
  by_cases h : x > y
  · rw [if_pos h]
    exact ⟨fun z => absurd z (by decide), fun z => absurd (z ▸ h) Int64.lt_irrefl⟩
  · rw [if_neg h]
    by_cases h2 : x = y
    · rw [if_pos h2]
      exact ⟨fun _ => h2, fun _ => rfl⟩
    · rw [if_neg h2]
      exact ⟨fun z => absurd z (by decide), fun z => absurd z h2⟩
theorem lc_le {x y : Int64} : lg_cmp x y ≤ 0 ↔ x ≤ y := by
  rw [← Int32.not_lt, lc_gt, Int64.not_lt]
theorem lc_ge {x y : Int64} : 0 ≤ lg_cmp x y ↔ y ≤ x := by
  rw [← Int32.not_lt, lc_lt, Int64.not_lt]
/-- a static array of the class -/
def sA (n d : String) (ty : FieldType) (N : Nat) (f : Nat → Value) (A : Nat → Prop) (U : State) (H : Heap) : Prop := ∃ t : Nat, va_Z "RegisterRows" n d (.ref t) A U H ∧ va_T ty t N f A U H
theorem sA.moved {n d : String} {ty : FieldType} {N : Nat} {f : Nat → Value} {A : Nat → Prop} {u U : State} {H : Heap} (hvm : u.vm.Alike U.vm) (h : sA n d ty N f A u H) : sA n d ty N f A U H := h.elim fun t z => ⟨t, va_Z.moved hvm z.1, va_T.moved hvm z.2⟩
theorem sA.kept {n d : String} {ty : FieldType} {N : Nat} {f : Nat → Value} {A : Nat → Prop} {U : State} {H H1 : Heap} (h : sA n d ty N f A U H) (hq : ∀ a : Nat, a < H.size → ¬ A a → H1[a]? = H[a]?) : sA n d ty N f A U H1 := h.elim fun t z => ⟨t, va_Z.kept z.1 hq, va_T.kept z.2 hq⟩
theorem sA.narrow {n d : String} {ty : FieldType} {N : Nat} {f : Nat → Value} {A B : Nat → Prop} {U : State} {H : Heap} (h : sA n d ty N f A U H) (hAB : ∀ q, B q → A q) : sA n d ty N f B U H := h.elim fun t z => ⟨t, va_Z.narrow z.1 hAB, va_T.narrow z.2 hAB⟩
def lHOMES : List Int32 := [0, 32, 64, 224, 896]
def lWIDTHS : List Int32 := [1, 1, 5, 21, 1]
def lNUMS : List Int64 := [1, 7227, 12, 7227, 7227, 7227, 1238, 14856]
def lDENS : List Int64 := [1, 100, 1, 254, 2540, 7200, 1157, 1157]
def gHOMES (i : Int32) : Int32 := lHOMES.getD i.toNatClampNeg 0
def gWIDTHS (i : Int32) : Int32 := lWIDTHS.getD i.toNatClampNeg 0
def gNUMS (i : Int32) : Int64 := lNUMS.getD i.toNatClampNeg 0
def gDENS (i : Int32) : Int64 := lDENS.getD i.toNatClampNeg 0
theorem Nw_go {w : Cond} (hw : w.onTables = true) {u U : State} (h : w.before #[] (u.setVm U.vm) = true) : va_Nw w U := by
  have e := Cond.onTables_vm (A := #[]) (A' := #[]) (U := u) (U' := U) U.vm w hw
  have hU : U.setVm U.vm = U := rfl
  rw [hU] at e
  show w.before #[] U = true
  rw [← e]
  exact h
theorem Nw_cast {C T : String} {u U : State} (hvm : u.vm.Alike U.vm) (h : va_Nw (.castable C T) u) : va_Nw (.castable C T) U := Nw_go rfl (by rw [Cond.castable_setVm hvm]; exact h)
theorem Nw_decl {x : MethodName} {u U : State} (hvm : u.vm.Alike U.vm) (h : va_Nw (.declares x) u) : va_Nw (.declares x) U := Nw_go rfl (by rw [Cond.declares_setVm hvm]; exact h)
def exNs : List String := ["java/lang/IllegalArgumentException", "java/lang/IndexOutOfBoundsException", "java/lang/UnsupportedOperationException", "java/lang/IllegalStateException", "java/lang/ArithmeticException"]
def dcNs : List String := ["java/lang/RuntimeException", "java/lang/Exception", "java/lang/Throwable"]
def cStr : List (Nat × String) := [(266, "no TOKEN"), (64, "a LENGTH beyond the bounds"), (75, "no such ORDER"), (258, "no such KIND"), (85, "no BOX"), (262, "no such REGISTER"), (278, "no more are KEPT"), (110, "no such part of GLUE"), (113, "no such TOKEN"), (131, "divided by 0"), (140, "no more GROUPS"), (151, "no GROUP"), (155, "no more TOKENS behind GROUPS"), (186, "none such went from the pile"), (208, "no such number of points, or no such UNIT"), (212, "no such number of 65536ths"), (226, "no such digits"), (232, "more digits than told"), (244, "nothing such is told")]
/-- a text of the class: its object, its bytes -/
def stO (q v : Nat) (bs : List Int32) (A : Nat → Prop) (U : State) (H : Heap) : Prop := va_O "java/lang/String" q A U H ∧ va_OF "java/lang/String" "coder" "B" (.int 0) q A U H ∧ va_OF "java/lang/String" "value" "[B" (.ref v) q A U H ∧ va_T .byte v bs.length (fun j => .int (bs.getD j 0)) A U H
theorem stO.go {q v : Nat} {bs : List Int32} {A B : Nat → Prop} {s U : State} {H H1 : Heap} (h : stO q v bs A s H) (hq : ∀ a : Nat, a < H.size → ¬ A a → H1[a]? = H[a]?) (hW : s.WarmedH U.vm) (hAB : ∀ q, B q → A q) : stO q v bs B U H1 := by
  obtain ⟨h1, h2, h3, h4⟩ := h
  have w := hW.alike
  exact ⟨((h1.kept hq).narrow hAB).moved w, ((h2.kept hq).narrow hAB).moved w, ((h3.kept hq).narrow hAB).moved w, ((h4.kept hq).narrow hAB).moved w⟩
theorem stO.here {q v : Nat} {bs : List Int32} {A B : Nat → Prop} {s U : State} {H : Heap} {locs : List Loc} (h : stO q v bs A s s.heap) (hS : va_S A s.heap H locs) (hU : U.heap = H) (hW : s.WarmedH U.vm) (hAB : ∀ q, B q → A q) : stO q v bs B U U.heap := by
  rw [hU]
  exact h.go hS.2.1 hW hAB
theorem stO.call {q v : Nat} {bs : List Int32} {A : Nat → Prop} {U : State} {g : JFrame} {mk : MethodId} {a : Array Value} (h : stO q v bs A U U.heap) : stO q v bs A (U.calling g mk a) (U.calling g mk a).heap := h.go (fun _ _ _ => rfl) (State.WarmedH.refl U) (fun _ z => z)
def tTxt : List (Nat × String × List Int32) := [(313, "void", [118, 111, 105, 100]), (318, "pt", [112, 116]), (320, " plus ", [32, 112, 108, 117, 115, 32]), (326, " minus ", [32, 109, 105, 110, 117, 115, 32]), (332, "fil", [102, 105, 108]), (334, "fill", [102, 105, 108, 108]), (336, "filll", [102, 105, 108, 108, 108])]
/-- what every method takes as given of the machine -/
def cxt (A : Nat → Prop) (U : State) (H : Heap) : Prop :=
  vx_Zq Bundle.tN "UNASSIGNED_STACK" Bundle.steD A U H ∧ vx_Zq Bundle.tN "SUPPRESSED_SENTINEL" Bundle.listD A U H ∧
  sA "HOMES" "[I" .int 5 (fun j => .int (lHOMES.getD j 0)) A U H ∧ sA "WIDTHS" "[I" .int 5 (fun j => .int (lWIDTHS.getD j 0)) A U H ∧
  sA "NUMERATORS" "[J" .long 8 (fun j => .long (lNUMS.getD j 0)) A U H ∧ sA "DENOMINATORS" "[J" .long 8 (fun j => .long (lDENS.getD j 0)) A U H ∧
  (va_Nw (.fieldLinkNest "RegisterRows$Bank" 25 "RegisterRows" "HOMES" "[I" "RegisterRows") U ∧ va_Nw (.fieldLinkNest "RegisterRows$Bank" 28 "RegisterRows" "WIDTHS" "[I" "RegisterRows") U ∧ va_Nw (.fieldLinkNest "RegisterRows$Pile" 40 "RegisterRows" "WIDTHS" "[I" "RegisterRows") U) ∧
  (∀ C ∈ exNs, va_Nw (.castable C C) U) ∧ (∀ C ∈ dcNs, va_Nw (.declares ⟨C, "<init>", "(Ljava/lang/String;)V"⟩) U) ∧ (∀ C ∈ exNs, ∀ T ∈ exNs, C ≠ T → va_Nc C T U) ∧ (∀ q ∈ cStr, ∃ a, vk_R "RegisterRows" q.1 q.2 a U) ∧
  (va_Z "java/lang/String" "COMPACT_STRINGS" "Z" (.int 1) A U H ∧ va_Zq "jdk/internal/util/Preconditions" "SIOOBE_FORMATTER" "Ljava/util/function/BiFunction;" A U H) ∧ (∀ t ∈ tTxt, ∃ q v, vk_R "RegisterRows" t.1 t.2.1 q U ∧ stO q v t.2.2 A U H)
theorem cxt.go {A B : Nat → Prop} {s U : State} {H H1 : Heap} (h : cxt A s H) (hq : ∀ a : Nat, a < H.size → ¬ A a → H1[a]? = H[a]?) (hW : s.WarmedH U.vm) (hAB : ∀ q, B q → A q) : cxt B U H1 := by
  obtain ⟨h1, h2, h3, h4, h5, h6, ⟨h7, h8, h9⟩, h10, h13, h11, h12, ⟨h14, h15⟩, h16⟩ := h
  have v := hW.alike
  exact ⟨((h1.kept hq).narrow hAB).moved v, ((h2.kept hq).narrow hAB).moved v, ((h3.kept hq).narrow hAB).moved v, ((h4.kept hq).narrow hAB).moved v, ((h5.kept hq).narrow hAB).moved v, ((h6.kept hq).narrow hAB).moved v, ⟨h7.warmF hW, h8.warmF hW, h9.warmF hW⟩, fun C hC => Nw_cast v (h10 C hC), fun C hC => Nw_decl v (h13 C hC), fun C hC T hT hn => (h11 C hC T hT hn).moved v, fun q hm => (h12 q hm).elim fun a z => ⟨a, z.warm hW⟩, ⟨((h14.kept hq).narrow hAB).moved v, ((h15.kept hq).narrow hAB).moved v⟩, fun t hm => (h16 t hm).elim fun q z => z.elim fun w y => ⟨q, w, y.1.warm hW, y.2.go hq hW hAB⟩⟩
theorem cxt.here {A B : Nat → Prop} {s U : State} {H : Heap} {locs : List Loc} (h : cxt A s s.heap) (hS : va_S A s.heap H locs) (hU : U.heap = H) (hW : s.WarmedH U.vm) (hAB : ∀ q, B q → A q) : cxt B U U.heap := by
  rw [hU]
  exact h.go hS.2.1 hW hAB
theorem cxt.call {A : Nat → Prop} {U : State} {g : JFrame} {mk : MethodId} {a : Array Value} (h : cxt A U U.heap) : cxt A (U.calling g mk a) (U.calling g mk a).heap := h.go (fun _ _ _ => rfl) (State.WarmedH.refl U) (fun _ z => z)
theorem cxt.str {A : Nat → Prop} {s : State} {H : Heap} (h : cxt A s H) (i : Nat) (q : Nat × String) (hq : cStr[i]? = some q) : ∃ a, vk_R "RegisterRows" q.1 q.2 a s := h.2.2.2.2.2.2.2.2.2.2.1 q (List.mem_of_getElem? hq)
theorem cxt.txt {A : Nat → Prop} {s : State} {H : Heap} (h : cxt A s H) (i : Nat) (t : Nat × String × List Int32) (ht : tTxt[i]? = some t) : ∃ q v, vk_R "RegisterRows" t.1 t.2.1 q s ∧ stO q v t.2.2 A s H := h.2.2.2.2.2.2.2.2.2.2.2.2 t (List.mem_of_getElem? ht)
theorem zq_rf {C n d : String} {A : Nat → Prop} {U : State} {H : Heap} (h : va_Zq C n d A U H) : va_Z C n d .null A U H ∨ ∃ t : Nat, va_Z C n d (.ref t) A U H := h
abbrev x_IAE : String := "java/lang/IllegalArgumentException"
abbrev x_IOO : String := "java/lang/IndexOutOfBoundsException"
abbrev x_UOE : String := "java/lang/UnsupportedOperationException"
abbrev x_ISE : String := "java/lang/IllegalStateException"
abbrev x_ARI : String := "java/lang/ArithmeticException"
abbrev x_nam : List String := ["java/lang/RuntimeException", "java/lang/Exception"]
theorem nm_x : ∀ n ∈ x_nam, Bundle.fit n = true := by decide +kernel
abbrev x_bad (E : String) : List Cond := [Cond.castable E E, Cond.declares ⟨"java/lang/RuntimeException", "<init>", "(Ljava/lang/String;)V"⟩, Cond.declares ⟨"java/lang/Exception", "<init>", "(Ljava/lang/String;)V"⟩, Cond.declares ⟨"java/lang/Throwable", "<init>", "(Ljava/lang/String;)V"⟩]
theorem x_bads {A : Nat → Prop} {args : Array Value} {s : State} {H : Heap} {E : String} (hC : cxt A s H) (hE : E ∈ exNs) : ∀ w ∈ x_bad E, w.before args s = true := by
  obtain ⟨-, -, -, -, -, -, -, h10, h13, -⟩ := hC
  exact vx_c (va_Nw.use rfl (h10 E hE)) (vx_c (va_Nw.use rfl (h13 _ (by decide +kernel))) (vx_c (va_Nw.use rfl (h13 _ (by decide +kernel))) (vx_c (va_Nw.use rfl (h13 _ (by decide +kernel))) vx_n)))
theorem xg_IAE : ∀ w ∈ Cond.classLink RX5 62 x_IAE :: Cond.initialized x_IAE :: vx_atS RX5 66 x_IAE x_nam, vx_ot w = true := by decide +kernel
theorem xb_IAE : ∀ w ∈ (vx_atS RX5 66 x_IAE x_nam).filter (fun w => !goodWord w), w ∈ x_bad x_IAE := by decide +kernel
theorem xi_IAE : ∀ w ∈ (vx_atS RX5 66 x_IAE x_nam).filter goodWord, w ∈ bigW := by decide +kernel
theorem xw_IAE {A : Nat → Prop} {args : Array Value} {s : State} {H : Heap} (hts : ∀ w ∈ bigW, w.before args s = true) (hC : cxt A s H) : ∀ w ∈ vx_atS RX5 66 x_IAE x_nam, w.before args s = true := vx_hat (fun w h => hts w (xi_IAE w h)) xb_IAE (x_bads hC (by decide +kernel))
theorem xg_IOO : ∀ w ∈ Cond.classLink RX5 108 x_IOO :: Cond.initialized x_IOO :: vx_atS RX5 112 x_IOO x_nam, vx_ot w = true := by decide +kernel
theorem xb_IOO : ∀ w ∈ (vx_atS RX5 112 x_IOO x_nam).filter (fun w => !goodWord w), w ∈ x_bad x_IOO := by decide +kernel
theorem xi_IOO : ∀ w ∈ (vx_atS RX5 112 x_IOO x_nam).filter goodWord, w ∈ bigW := by decide +kernel
theorem xw_IOO {A : Nat → Prop} {args : Array Value} {s : State} {H : Heap} (hts : ∀ w ∈ bigW, w.before args s = true) (hC : cxt A s H) : ∀ w ∈ vx_atS RX5 112 x_IOO x_nam, w.before args s = true := vx_hat (fun w h => hts w (xi_IOO w h)) xb_IOO (x_bads hC (by decide +kernel))
theorem xg_UOE : ∀ w ∈ Cond.classLink RX5 138 x_UOE :: Cond.initialized x_UOE :: vx_atS RX5 142 x_UOE x_nam, vx_ot w = true := by decide +kernel
theorem xb_UOE : ∀ w ∈ (vx_atS RX5 142 x_UOE x_nam).filter (fun w => !goodWord w), w ∈ x_bad x_UOE := by decide +kernel
theorem xi_UOE : ∀ w ∈ (vx_atS RX5 142 x_UOE x_nam).filter goodWord, w ∈ bigW := by decide +kernel
theorem xw_UOE {A : Nat → Prop} {args : Array Value} {s : State} {H : Heap} (hts : ∀ w ∈ bigW, w.before args s = true) (hC : cxt A s H) : ∀ w ∈ vx_atS RX5 142 x_UOE x_nam, w.before args s = true := vx_hat (fun w h => hts w (xi_UOE w h)) xb_UOE (x_bads hC (by decide +kernel))
theorem xg_ISE : ∀ w ∈ Cond.classLink RX5 149 x_ISE :: Cond.initialized x_ISE :: vx_atS RX5 153 x_ISE x_nam, vx_ot w = true := by decide +kernel
theorem xb_ISE : ∀ w ∈ (vx_atS RX5 153 x_ISE x_nam).filter (fun w => !goodWord w), w ∈ x_bad x_ISE := by decide +kernel
theorem xi_ISE : ∀ w ∈ (vx_atS RX5 153 x_ISE x_nam).filter goodWord, w ∈ bigW := by decide +kernel
theorem xw_ISE {A : Nat → Prop} {args : Array Value} {s : State} {H : Heap} (hts : ∀ w ∈ bigW, w.before args s = true) (hC : cxt A s H) : ∀ w ∈ vx_atS RX5 153 x_ISE x_nam, w.before args s = true := vx_hat (fun w h => hts w (xi_ISE w h)) xb_ISE (x_bads hC (by decide +kernel))
theorem xg_ARI : ∀ w ∈ Cond.classLink RX5 129 x_ARI :: Cond.initialized x_ARI :: vx_atS RX5 133 x_ARI x_nam, vx_ot w = true := by decide +kernel
theorem xb_ARI : ∀ w ∈ (vx_atS RX5 133 x_ARI x_nam).filter (fun w => !goodWord w), w ∈ x_bad x_ARI := by decide +kernel
theorem xi_ARI : ∀ w ∈ (vx_atS RX5 133 x_ARI x_nam).filter goodWord, w ∈ bigW := by decide +kernel
theorem xw_ARI {A : Nat → Prop} {args : Array Value} {s : State} {H : Heap} (hts : ∀ w ∈ bigW, w.before args s = true) (hC : cxt A s H) : ∀ w ∈ vx_atS RX5 133 x_ARI x_nam, w.before args s = true := vx_hat (fun w h => hts w (xi_ARI w h)) xb_ARI (x_bads hC (by decide +kernel))
/-- a method's words: its own code, and the tables' good words -/
def mW (y : MethodName) (cc : ByteArray) (n : Nat) (ret : Option FieldType) : List Cond := Cond.code y cc n ret :: bigW
theorem mW_hts {y : MethodName} {cc : ByteArray} {n : Nat} {ret : Option FieldType} {args : Array Value} {s : State} (h : ∀ w ∈ mW y cc n ret, w.before args s = true) : ∀ w ∈ bigW, w.before args s = true := fun w hw => h w (List.mem_cons_of_mem _ hw)
theorem mW_G {y : MethodName} {cc : ByteArray} {n : Nat} {ret : Option FieldType} (h : Cond.code y cc n ret ∈ bigW) : GoodIn bigW (mW y cc n ret) := goodIn_sub (fun w hw => (List.mem_cons.mp hw).elim (fun e => by rw [e]; exact h) (fun z => z)) (by rw [mW, List.all_cons, bigW_good]; rfl)
theorem kS {R : Room} {s : State} {args : Array Value} {own : String} {idx maxL mc ms : Nat} {y : MethodName} {cc : ByteArray} {ret : Option FieldType} {rm : Room} (n : Nat) (hts : ∀ w ∈ bigW, w.before args s = true) (h1 : Cond.methodLink own idx y ∈ bigW) (h2 : Cond.static y ∈ bigW) (h3 : Cond.initialized y.cls ∈ bigW) (h4 : Cond.code y cc maxL ret ∈ bigW) (hrc : rm.cells = mc) (hrs : rm.slots = ms) (hd : y.cls ≠ "java/lang/invoke/MethodHandle" ∧ y.cls ≠ "java/lang/invoke/VarHandle" ∧ (parseMethodDescriptor y.desc).map (fun d => d.parameters.length) = some n) (hR : rm.frames + 1 ≤ R.frames ∧ 8 + (maxL + 11) + rm.locals ≤ R.locals) : CallB R s args own idx y cc maxL ret (mW y cc maxL ret) rm mc ms n ∧ (Cond.static y).before args s = true := ⟨callB_of n hts (mW_G h4) rfl hrc hrs (hts _ h3) (hts _ h1) hd hR, hts _ h2⟩
theorem kV {R : Room} {s : State} {args : Array Value} {own : String} {idx maxL mc ms : Nat} {y : MethodName} {cc : ByteArray} {ret : Option FieldType} {rm : Room} (n : Nat) (hts : ∀ w ∈ bigW, w.before args s = true) (h1 : Cond.methodLink own idx y ∈ bigW) (h2 : Cond.instanceMethod y ∈ bigW) (h3 : Cond.initialized y.cls ∈ bigW) (h4 : Cond.code y cc maxL ret ∈ bigW) (h5 : Cond.selects y.cls y y ∈ bigW) (hrc : rm.cells = mc) (hrs : rm.slots = ms) (hd : y.cls ≠ "java/lang/invoke/MethodHandle" ∧ y.cls ≠ "java/lang/invoke/VarHandle" ∧ (parseMethodDescriptor y.desc).map (fun d => d.parameters.length) = some n) (hR : rm.frames + 1 ≤ R.frames ∧ 8 + (maxL + 11) + rm.locals ≤ R.locals) : CallW R s args own y.cls idx y cc maxL ret (mW y cc maxL ret) rm mc ms n := ⟨callB_of n hts (mW_G h4) rfl hrc hrs (hts _ h3) (hts _ h1) hd hR, hts _ h2, hts _ h5⟩
/-- the RegisterRows object: 23 cells -/
abbrev wC (ad : Nat → Nat) (cI cJ : ClassId) (Bc : Nat → Int64) (Bl Pk Pr Pl : Nat → Int32) (Pc : Nat → Int64) (Pm : Int32) (Gf Gt Gx : Nat → Int32) (Gd Gm : Int32) (Ek Er Ea Ex : Nat → Int32) (Em Eb Et : Int32) (Ss : Nat → Int32) (Sm : Int32) (Wg Wr Md : Nat → Int64) : va_W :=
  [(ad 0, .inr (7, [.ref (ad 1), .ref (ad 4), .ref (ad 9), .ref (ad 13), .ref (ad 18), .ref (ad 20), .ref (ad 21), .ref (ad 22)])),
   (ad 1, .inr (2, [.ref (ad 2), .ref (ad 3)])), (ad 2, .inl (cJ, 928, .inr (.inl Bc))), (ad 3, .inl (cI, 160, .inl Bl)),
   (ad 4, .inr (5, [.ref (ad 5), .ref (ad 6), .ref (ad 7), .ref (ad 8), .int Pm])), (ad 5, .inl (cI, 200, .inl Pk)), (ad 6, .inl (cI, 200, .inl Pr)), (ad 7, .inl (cI, 200, .inl Pl)), (ad 8, .inl (cJ, 4200, .inr (.inl Pc))),
   (ad 9, .inr (4, [.ref (ad 10), .ref (ad 11), .ref (ad 12), .int Gd, .int Gm])), (ad 10, .inl (cI, 20, .inl Gf)), (ad 11, .inl (cI, 20, .inl Gt)), (ad 12, .inl (cI, 60, .inl Gx)),
   (ad 13, .inr (3, [.ref (ad 14), .ref (ad 15), .ref (ad 16), .ref (ad 17), .int Em, .int Eb, .int Et])), (ad 14, .inl (cI, 200, .inl Ek)), (ad 15, .inl (cI, 200, .inl Er)), (ad 16, .inl (cI, 200, .inl Ea)), (ad 17, .inl (cI, 60, .inl Ex)),
   (ad 18, .inr (6, [.ref (ad 19), .int Sm])), (ad 19, .inl (cI, 61, .inl Ss)),
   (ad 20, .inl (cJ, 5, .inr (.inl Wg))), (ad 21, .inl (cJ, 21, .inr (.inl Wr))), (ad 22, .inl (cJ, 21, .inr (.inl Md)))]
/-- the reference's object: 17 cells -/
abbrev wM (ad : Nat → Nat) (cI cJ : ClassId) (Th : Int32) (Ce : Nat → Int64) (Le : Nat → Int32) (De Ke : Int32) (Kc : Nat → Int64) (Ko Kl Kd : Nat → Int32) (Ug Ur Va : Nat → Int64) (To : Int32) (Tt Td : Nat → Int32) (Go : Int32) (Gg Ga : Nat → Int32) (Be : Int32) (Bt : Nat → Int32) (Si : Int32) (Te : Nat → Int32) (Bz : Int32) (Bk : Nat → Int32) : va_W :=
  [(ad 0, .inr (8, [.int Th, .ref (ad 1), .ref (ad 2), .int De, .int Ke, .ref (ad 3), .ref (ad 4), .ref (ad 5), .ref (ad 6), .ref (ad 7), .ref (ad 8), .ref (ad 9), .int To, .ref (ad 10), .ref (ad 11), .int Go, .ref (ad 12), .ref (ad 13), .int Be, .ref (ad 14), .int Si, .ref (ad 15), .int Bz, .ref (ad 16)])),
   (ad 1, .inl (cJ, 3360, .inr (.inl Ce))), (ad 2, .inl (cI, 160, .inl Le)), (ad 3, .inl (cJ, 4200, .inr (.inl Kc))), (ad 4, .inl (cI, 200, .inl Ko)), (ad 5, .inl (cI, 200, .inl Kl)), (ad 6, .inl (cI, 200, .inl Kd)),
   (ad 7, .inl (cJ, 5, .inr (.inl Ug))), (ad 8, .inl (cJ, 21, .inr (.inl Ur))), (ad 9, .inl (cJ, 21, .inr (.inl Va))), (ad 10, .inl (cI, 60, .inl Tt)), (ad 11, .inl (cI, 60, .inl Td)), (ad 12, .inl (cI, 200, .inl Gg)), (ad 13, .inl (cI, 200, .inl Ga)), (ad 14, .inl (cI, 60, .inl Bt)), (ad 15, .inl (cI, 120, .inl Te)), (ad 16, .inl (cI, 20, .inl Bk))]
theorem va_ldcSW {p : Program} {l : Launch} {e : Env} {R : Room} {s : State} {m : MethodId} {args : Array Value} {below : List Frame} {meth : Method} {c : Code} {H : Heap} {locs : List Loc} {cells slots : Nat} {Q : State → Prop} {cc : ByteArray} {pc : Nat} {ls : Array Slot} {rest : List Value} (hexec : p.tables.exec = Jvm.exec) (hb : c.code = cc) {own tx : String} {index q : Nat} (hown : s.vm.findClass own = some m.cls) (hZ : vk_R own index tx q s) (hdg : decode cc pc = .ok (.ldc_w index, 3))
    (k : W p l e R s m args below meth c H locs cells slots Q (F0 m (pc + 3) ls (.ref q :: rest))) : W p l e R s m args below meth c H locs cells slots Q (F0 m pc ls rest) := by
  intro T hT X
  obtain ⟨t, a1, b1⟩ := k T hT X
  exact ⟨t, X.ldcStringW hexec hown (text := tx) (a := q) hZ.1 hZ.2 (g := F0 m pc ls rest) rfl (by rw [hb]; exact hdg) t a1, b1⟩
