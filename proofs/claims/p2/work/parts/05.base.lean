/-- the object's own cells, by their addresses, and all that is new -/
def fA (n : Nat) (ad : Nat → Nat) (sz : Nat) : Nat → Prop := fun q => (∃ k, k < n ∧ q = ad k) ∨ sz ≤ q
def fI (n : Nat) (ad : Nat → Nat) : Prop := ∀ i j, i < n → j < n → ad i = ad j → i = j
theorem fA_new {n : Nat} {ad : Nat → Nat} {sz q : Nat} (h : sz ≤ q) : fA n ad sz q := Or.inr h
theorem fA_mono {n : Nat} {ad : Nat → Nat} {sz sz' q : Nat} (h : sz ≤ sz') (x : fA n ad sz' q) : fA n ad sz q := x.elim Or.inl (fun y => Or.inr (Nat.le_trans h y))
theorem fA_D {n : Nat} {ad : Nat → Nat} {sz : Nat} {ws : va_W} (hi : fI n ad) (hw : ws.map Prod.fst = (List.range n).map ad) : va_D (fA n ad sz) ws := by
  have key : ∀ (k : Nat) (q : Nat × va_E), ws[k]? = some q → k < n ∧ q.1 = ad k := by
    intro k q hk
    have h1 : (ws.map Prod.fst)[k]? = some q.1 := by rw [List.getElem?_map, hk]; rfl
    rw [hw, List.getElem?_map] at h1
    cases h2 : (List.range n)[k]? with
    | none => rw [h2] at h1; cases h1
    | some z =>
      rw [h2] at h1
      have h3 := List.getElem?_eq_some_iff.mp h2
      obtain ⟨h4, h5⟩ := h3
      rw [List.getElem_range] at h5
      rw [List.length_range] at h4
      subst h5
      exact ⟨h4, (Option.some.inj h1).symm⟩
  refine ⟨fun i j p q hp hq e => ?_, fun k q hk => Or.inl ⟨k, (key k q hk).1, (key k q hk).2⟩⟩
  obtain ⟨a1, a2⟩ := key i p hp
  obtain ⟨b1, b2⟩ := key j q hq
  exact hi i j a1 b1 (by rw [← a2, ← b2, e])
/-- a method that throws leaves this -/
def exN : Nat → String
  | 1 => "java/lang/IllegalArgumentException"
  | 2 => "java/lang/IndexOutOfBoundsException"
  | 3 => "java/lang/UnsupportedOperationException"
  | 4 => "java/lang/IllegalStateException"
  | _ => "java/lang/ArithmeticException"
theorem lc_lt {x y : Int64} : lg_cmp x y < 0 ↔ x < y := by
  unfold lg_cmp
  by_cases h : x > y
  · rw [if_pos h]
    exact ⟨fun z => absurd z (by decide), fun z => absurd (Int64.lt_trans h z) Int64.lt_irrefl⟩
  · rw [if_neg h]
    by_cases h2 : x = y
    · rw [if_pos h2]
      exact ⟨fun z => absurd z (by decide), fun z => absurd (h2 ▸ z) Int64.lt_irrefl⟩
    · rw [if_neg h2]
      exact ⟨fun _ => Int64.lt_of_le_of_ne (Int64.not_lt.mp h) h2, fun _ => by decide⟩
theorem lc_gt {x y : Int64} : 0 < lg_cmp x y ↔ y < x := by
  unfold lg_cmp
  by_cases h : x > y
  · rw [if_pos h]
    exact ⟨fun _ => h, fun _ => by decide⟩
  · rw [if_neg h]
    by_cases h2 : x = y
    · rw [if_pos h2]
      exact ⟨fun z => absurd z (by decide), fun z => absurd z h⟩
    · rw [if_neg h2]
      exact ⟨fun z => absurd z (by decide), fun z => absurd z h⟩
theorem lc_eq {x y : Int64} : lg_cmp x y = 0 ↔ x = y := by
  unfold lg_cmp
  by_cases h : x > y
  · rw [if_pos h]
    exact ⟨fun z => absurd z (by decide), fun z => absurd (z ▸ h) Int64.lt_irrefl⟩
  · rw [if_neg h]
    by_cases h2 : x = y
    · rw [if_pos h2]
      exact ⟨fun _ => h2, fun _ => rfl⟩
    · rw [if_neg h2]
      exact ⟨fun z => absurd z (by decide), fun z => absurd z h2⟩
theorem lc_le {x y : Int64} : lg_cmp x y ≤ 0 ↔ x ≤ y := by
  rw [← Int32.not_lt, lc_gt, Int64.not_lt]
theorem lc_ge {x y : Int64} : 0 ≤ lg_cmp x y ↔ y ≤ x := by
  rw [← Int32.not_lt, lc_lt, Int64.not_lt]
/-- a static array of the class -/
def sA (n d : String) (ty : FieldType) (N : Nat) (f : Nat → Value) (A : Nat → Prop) (U : State) (H : Heap) : Prop := ∃ t : Nat, va_Z "RegisterRows" n d (.ref t) A U H ∧ va_T ty t N f A U H
theorem sA.moved {n d : String} {ty : FieldType} {N : Nat} {f : Nat → Value} {A : Nat → Prop} {u U : State} {H : Heap} (hvm : u.vm.Alike U.vm) (h : sA n d ty N f A u H) : sA n d ty N f A U H := h.elim fun t z => ⟨t, va_Z.moved hvm z.1, va_T.moved hvm z.2⟩
theorem sA.kept {n d : String} {ty : FieldType} {N : Nat} {f : Nat → Value} {A : Nat → Prop} {U : State} {H H1 : Heap} (h : sA n d ty N f A U H) (hq : ∀ a : Nat, a < H.size → ¬ A a → H1[a]? = H[a]?) : sA n d ty N f A U H1 := h.elim fun t z => ⟨t, va_Z.kept z.1 hq, va_T.kept z.2 hq⟩
theorem sA.narrow {n d : String} {ty : FieldType} {N : Nat} {f : Nat → Value} {A B : Nat → Prop} {U : State} {H : Heap} (h : sA n d ty N f A U H) (hAB : ∀ q, B q → A q) : sA n d ty N f B U H := h.elim fun t z => ⟨t, va_Z.narrow z.1 hAB, va_T.narrow z.2 hAB⟩
def lHOMES : List Int32 := [0, 32, 64, 224, 896]
def lWIDTHS : List Int32 := [1, 1, 5, 21, 1]
def lNUMS : List Int64 := [1, 7227, 12, 7227, 7227, 7227, 1238, 14856]
def lDENS : List Int64 := [1, 100, 1, 254, 2540, 7200, 1157, 1157]
def gHOMES (i : Int32) : Int32 := lHOMES.getD i.toNatClampNeg 0
def gWIDTHS (i : Int32) : Int32 := lWIDTHS.getD i.toNatClampNeg 0
def gNUMS (i : Int32) : Int64 := lNUMS.getD i.toNatClampNeg 0
def gDENS (i : Int32) : Int64 := lDENS.getD i.toNatClampNeg 0
/-- a class that passes for another, by the tables -/
def ctP (C T : String) (U : State) : Prop := ∃ c t : ClassId, U.vm.findClass C = some c ∧ U.vm.findClass T = some t ∧ U.vm.assignable c t = true
theorem ctP.moved {C T : String} {u U : State} (hvm : u.vm.Alike U.vm) (h : ctP C T u) : ctP C T U := by
  obtain ⟨c, t, h1, h2, h3⟩ := h
  exact ⟨c, t, by rw [hvm.findClass]; exact h1, by rw [hvm.findClass]; exact h2, by rw [hvm.assignable]; exact h3⟩
theorem ctP.word {args : Array Value} {s : State} {C T : String} (h : ctP C T s) : (Cond.castable C T).before args s = true := by
  obtain ⟨c, t, h1, h2, h3⟩ := h
  simp [Cond.before, Cond.holds, Cond.value, h1, h2, h3]
theorem ctP.of {args : Array Value} {s : State} {C T : String} (h : (Cond.castable C T).before args s = true) : ctP C T s := by
  obtain ⟨c, t, h1, h2, h3⟩ := Cond.castable_spec h
  exact ⟨c, t, h1, h2, h3⟩
def exNs : List String := ["java/lang/IllegalArgumentException", "java/lang/IndexOutOfBoundsException", "java/lang/UnsupportedOperationException", "java/lang/IllegalStateException", "java/lang/ArithmeticException"]
def cStr : List (Nat × String) := [(266, "no TOKEN"), (64, "a LENGTH beyond the bounds"), (75, "no such ORDER"), (258, "no such KIND"), (85, "no BOX"), (262, "no such REGISTER"), (278, "no more are KEPT"), (110, "no such part of GLUE"), (113, "no such TOKEN"), (131, "divided by 0"), (140, "no more GROUPS"), (151, "no GROUP"), (155, "no more TOKENS behind GROUPS"), (186, "none such went from the pile"), (208, "no such number of points, or no such UNIT"), (212, "no such number of 65536ths"), (226, "no such digits"), (232, "more digits than told"), (244, "nothing such is told")]
/-- what every method takes as given of the machine -/
def cxt (A : Nat → Prop) (U : State) (H : Heap) : Prop :=
  vx_Zq Bundle.tN "UNASSIGNED_STACK" Bundle.steD A U H ∧ vx_Zq Bundle.tN "SUPPRESSED_SENTINEL" Bundle.listD A U H ∧
  sA "HOMES" "[I" .int 5 (fun j => .int (lHOMES.getD j 0)) A U H ∧ sA "WIDTHS" "[I" .int 5 (fun j => .int (lWIDTHS.getD j 0)) A U H ∧
  sA "NUMERATORS" "[J" .long 8 (fun j => .long (lNUMS.getD j 0)) A U H ∧ sA "DENOMINATORS" "[J" .long 8 (fun j => .long (lDENS.getD j 0)) A U H ∧
  (va_Nw (.fieldLinkNest "RegisterRows$Bank" 25 "RegisterRows" "HOMES" "[I" "RegisterRows") U ∧ va_Nw (.fieldLinkNest "RegisterRows$Bank" 28 "RegisterRows" "WIDTHS" "[I" "RegisterRows") U ∧ va_Nw (.fieldLinkNest "RegisterRows$Pile" 40 "RegisterRows" "WIDTHS" "[I" "RegisterRows") U) ∧
  (∀ C ∈ exNs, ctP C C U) ∧ (∀ C ∈ exNs, ∀ T ∈ exNs, C ≠ T → va_Nc C T U) ∧ (∀ q ∈ cStr, ∃ a, vk_R "RegisterRows" q.1 q.2 a U)
theorem cxt.go {A B : Nat → Prop} {s U : State} {H H1 : Heap} (h : cxt A s H) (hq : ∀ a : Nat, a < H.size → ¬ A a → H1[a]? = H[a]?) (hW : s.WarmedH U.vm) (hAB : ∀ q, B q → A q) : cxt B U H1 := by
  obtain ⟨h1, h2, h3, h4, h5, h6, ⟨h7, h8, h9⟩, h10, h11, h12⟩ := h
  have v := hW.alike
  exact ⟨((h1.kept hq).narrow hAB).moved v, ((h2.kept hq).narrow hAB).moved v, ((h3.kept hq).narrow hAB).moved v, ((h4.kept hq).narrow hAB).moved v, ((h5.kept hq).narrow hAB).moved v, ((h6.kept hq).narrow hAB).moved v, ⟨h7.warmF hW, h8.warmF hW, h9.warmF hW⟩, fun C hC => (h10 C hC).moved v, fun C hC T hT hn => (h11 C hC T hT hn).moved v, fun q hm => (h12 q hm).elim fun a z => ⟨a, z.warm hW⟩⟩
theorem cxt.here {A B : Nat → Prop} {s U : State} {H : Heap} {locs : List Loc} (h : cxt A s s.heap) (hS : va_S A s.heap H locs) (hU : U.heap = H) (hW : s.WarmedH U.vm) (hAB : ∀ q, B q → A q) : cxt B U U.heap := by
  rw [hU]
  exact h.go hS.2.1 hW hAB
theorem cxt.call {A : Nat → Prop} {U : State} {g : JFrame} {mk : MethodId} {a : Array Value} (h : cxt A U U.heap) : cxt A (U.calling g mk a) (U.calling g mk a).heap := h.go (fun _ _ _ => rfl) (State.WarmedH.refl U) (fun _ z => z)
theorem cxt.str {A : Nat → Prop} {s : State} {H : Heap} (h : cxt A s H) (i : Nat) (q : Nat × String) (hq : cStr[i]? = some q) : ∃ a, vk_R "RegisterRows" q.1 q.2 a s := h.2.2.2.2.2.2.2.2.2 q (List.mem_of_getElem? hq)
abbrev x_IAE : String := "java/lang/IllegalArgumentException"
abbrev x_IOO : String := "java/lang/IndexOutOfBoundsException"
abbrev x_UOE : String := "java/lang/UnsupportedOperationException"
abbrev x_ISE : String := "java/lang/IllegalStateException"
abbrev x_ARI : String := "java/lang/ArithmeticException"
abbrev x_nam : List String := ["java/lang/RuntimeException", "java/lang/Exception"]
theorem xg_IAE : ∀ w ∈ Cond.classLink RX5 62 x_IAE :: Cond.initialized x_IAE :: vx_atS RX5 66 x_IAE x_nam, vx_ot w = true := by decide +kernel
theorem xb_IAE : ∀ w ∈ (vx_atS RX5 66 x_IAE x_nam).filter (fun w => !goodWord w), w ∈ [Cond.castable x_IAE x_IAE] := by decide +kernel
theorem nm_x : ∀ n ∈ x_nam, Bundle.fit n = true := by decide +kernel
