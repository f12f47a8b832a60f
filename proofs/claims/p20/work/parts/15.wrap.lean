/-- the class's cells and the law's own row -/
def fO (n : Nat) (ad : Nat → Nat) (ou sz : Nat) : Nat → Prop := fun q => fA n ad sz q ∨ q = ou
theorem ou_D {n : Nat} {ad : Nat → Nat} {ou sz : Nat} {ws : va_W} {e : va_E} (hi : fI n ad) (hou : ∀ k, k < n → ou ≠ ad k) (hw : ws.map Prod.fst = (List.range n).map ad) : va_D (fO n ad ou sz) (ws ++ [(ou, e)]) := by
  refine va_D.app ((fA_D (sz := sz) hi hw).weaken (fun _ _ _ h => Or.inl h)) ⟨fun i j p q hp hq _ => ?_, fun k q hk => ?_⟩ ?_
  · have h1 := (List.getElem?_eq_some_iff.mp hp).1
    have h2 := (List.getElem?_eq_some_iff.mp hq).1
    simp only [List.length_singleton] at h1 h2
    omega
  · have h1 := (List.getElem?_eq_some_iff.mp hk).1
    simp only [List.length_singleton] at h1
    have h2 : k = 0 := by omega
    subst h2
    cases hk
    exact Or.inr rfl
  · intro i j p q hp hq
    have h1 := (List.getElem?_eq_some_iff.mp hq).1
    simp only [List.length_singleton] at h1
    have h2 : j = 0 := by omega
    subst h2
    cases hq
    have h3 : (ws.map Prod.fst)[i]? = some p.1 := by rw [List.getElem?_map, hp]; rfl
    rw [hw, List.getElem?_map] at h3
    cases h4 : (List.range n)[i]? with
    | none => rw [h4] at h3; cases h3
    | some z =>
      rw [h4] at h3
      obtain ⟨h5, h6⟩ := List.getElem?_eq_some_iff.mp h4
      rw [List.getElem_range] at h6
      rw [List.length_range] at h5
      subst h6
      have h7 := Option.some.inj h3
      intro e9
      exact hou i h5 (h7.trans e9).symm
theorem cxt.ca {A : Nat → Prop} {s : State} {H : Heap} {args : Array Value} (h : cxt A s H) (C : String) (hC : C ∈ exNs) : (Cond.castable C C).before args s = true := va_Nw.use rfl (h.2.2.2.2.2.2.2.1 C hC)
theorem cxt.nc {A : Nat → Prop} {s : State} {H : Heap} (h : cxt A s H) (C T : String) (hC : C ∈ exNs) (hT : T ∈ exNs) (hn : C ≠ T) : va_Nc C T s := h.2.2.2.2.2.2.2.2.2.1 C hC T hT hn
theorem Met.ofWH {l : Launch} {y : MethodName} {ws ws' : List Cond} {rm : Room} {Pc : Array Value → State → Prop} {Qc : Array Value → State → Outcome → State → Prop} {mc ms : Nat} {free : Addr → Prop} {cc : ByteArray} {maxL : Nat} {ret : Option FieldType} {hh : List (Nat × Nat × Nat × Nat)}
    (hy : plainName y.cls = true) (hw : ws = Cond.codeWith y cc maxL ret hh :: ws')
    (body : ∀ p e s m args below meth c s₁, BodyLoose p l y (headSpec ws rm) cc maxL ret e s m args below meth c s₁ → c.maxLocals = maxL → Pc args s →
      W p l e (headSpec ws rm).room s m args below meth c s.heap [] 0 0 (MQ below Qc args s mc ms free) (entryFrame m args maxL)) : Met l y ws rm Pc Qc mc ms free := by
  refine MetFree.of_bodyS (code := cc) (maxLocals := maxL) (ret := ret) hy ?_ ?_
  · intro args s m h hn
    obtain ⟨m9, meth, c, hn9, h1, h2, h3, h4, -, h5, h6, -⟩ := Cond.codeWith_spec (atoms_spec (ws := ws) h _ (by rw [hw]; exact List.mem_cons_self))
    cases hn.symm.trans hn9
    exact ⟨meth, c, h1, h2, h3, h4, h5, h6⟩
  · intro p e s m args below meth c s₁ B hml hP _
    have hh0 : s₁.heap = s.heap := by rw [B.state]; rfl
    obtain ⟨t, a1, o, b1, b2, b3⟩ := body p e s m args below meth c s₁ B hml hP s₁ hh0 (Stand.of_body B)
    exact ⟨t, o, a1, b1, b2, ⟨b3.1, b3.2⟩⟩
def mWh (y : MethodName) (cc : ByteArray) (n : Nat) (ret : Option FieldType) (hh : List (Nat × Nat × Nat × Nat)) : List Cond := Cond.codeWith y cc n ret hh :: bigW
theorem mWh_hts {y : MethodName} {cc : ByteArray} {n : Nat} {ret : Option FieldType} {hh : List (Nat × Nat × Nat × Nat)} {args : Array Value} {s : State} (h : ∀ w ∈ mWh y cc n ret hh, w.before args s = true) : ∀ w ∈ bigW, w.before args s = true := fun w hw => h w (List.mem_cons_of_mem _ hw)
theorem mWh_G {y : MethodName} {cc : ByteArray} {n : Nat} {ret : Option FieldType} {hh : List (Nat × Nat × Nat × Nat)} (h : Cond.codeWith y cc n ret hh ∈ bigW) : GoodIn bigW (mWh y cc n ret hh) := goodIn_sub (fun w hw => (List.mem_cons.mp hw).elim (fun e => by rw [e]; exact h) (fun z => z)) (by rw [mWh, List.all_cons, bigW_good]; rfl)

theorem dL_token_0 : decode cL_token 0 = .ok (.aload_n 2, 1) := by decide +kernel
theorem dL_token_1 : decode cL_token 1 = .ok (.iconst 0, 1) := by decide +kernel
theorem dL_token_2 : decode cL_token 2 = .ok (.aload_n 0, 1) := by decide +kernel
theorem dL_token_3 : decode cL_token 3 = .ok (.iload_n 1, 1) := by decide +kernel
theorem dL_token_4 : decode cL_token 4 = .ok (.invokevirtual 7, 3) := by decide +kernel
theorem dL_token_7 : decode cL_token 7 = .ok (.i2l, 1) := by decide +kernel
theorem dL_token_8 : decode cL_token 8 = .ok (.lastore, 1) := by decide +kernel
theorem dL_token_9 : decode cL_token 9 = .ok (.goto 6, 3) := by decide +kernel
theorem dL_token_12 : decode cL_token 12 = .ok (.astore_n 3, 1) := by decide +kernel
theorem dL_token_13 : decode cL_token 13 = .ok (.iconst 1, 1) := by decide +kernel
theorem dL_token_14 : decode cL_token 14 = .ok (.ireturn, 1) := by decide +kernel
theorem dL_token_15 : decode cL_token 15 = .ok (.iconst 0, 1) := by decide +kernel
theorem dL_token_16 : decode cL_token 16 = .ok (.ireturn, 1) := by decide +kernel
theorem dL_glue_0 : decode cL_glue 0 = .ok (.aload_n 0, 1) := by decide +kernel
theorem dL_glue_1 : decode cL_glue 1 = .ok (.lload_n 1, 1) := by decide +kernel
theorem dL_glue_2 : decode cL_glue 2 = .ok (.lload_n 3, 1) := by decide +kernel
theorem dL_glue_3 : decode cL_glue 3 = .ok (.iload 5, 2) := by decide +kernel
theorem dL_glue_5 : decode cL_glue 5 = .ok (.lload 6, 2) := by decide +kernel
theorem dL_glue_7 : decode cL_glue 7 = .ok (.iload 8, 2) := by decide +kernel
theorem dL_glue_9 : decode cL_glue 9 = .ok (.invokevirtual 15, 3) := by decide +kernel
theorem dL_glue_12 : decode cL_glue 12 = .ok (.goto 7, 3) := by decide +kernel
theorem dL_glue_15 : decode cL_glue 15 = .ok (.astore 9, 2) := by decide +kernel
theorem dL_glue_17 : decode cL_glue 17 = .ok (.iconst 1, 1) := by decide +kernel
theorem dL_glue_18 : decode cL_glue 18 = .ok (.ireturn, 1) := by decide +kernel
theorem dL_glue_19 : decode cL_glue 19 = .ok (.iconst 0, 1) := by decide +kernel
theorem dL_glue_20 : decode cL_glue 20 = .ok (.ireturn, 1) := by decide +kernel
theorem dL_set_0 : decode cL_set 0 = .ok (.aload 6, 2) := by decide +kernel
theorem dL_set_2 : decode cL_set 2 = .ok (.iconst 0, 1) := by decide +kernel
theorem dL_set_3 : decode cL_set 3 = .ok (.aload_n 0, 1) := by decide +kernel
theorem dL_set_4 : decode cL_set 4 = .ok (.iload_n 1, 1) := by decide +kernel
theorem dL_set_5 : decode cL_set 5 = .ok (.iload_n 2, 1) := by decide +kernel
theorem dL_set_6 : decode cL_set 6 = .ok (.lload_n 3, 1) := by decide +kernel
theorem dL_set_7 : decode cL_set 7 = .ok (.iload 5, 2) := by decide +kernel
theorem dL_set_9 : decode cL_set 9 = .ok (.invokevirtual 19, 3) := by decide +kernel
theorem dL_set_12 : decode cL_set 12 = .ok (.i2l, 1) := by decide +kernel
theorem dL_set_13 : decode cL_set 13 = .ok (.lastore, 1) := by decide +kernel
theorem dL_set_14 : decode cL_set 14 = .ok (.goto 15, 3) := by decide +kernel
theorem dL_set_17 : decode cL_set 17 = .ok (.astore 7, 2) := by decide +kernel
theorem dL_set_19 : decode cL_set 19 = .ok (.iconst 1, 1) := by decide +kernel
theorem dL_set_20 : decode cL_set 20 = .ok (.ireturn, 1) := by decide +kernel
theorem dL_set_21 : decode cL_set 21 = .ok (.astore 7, 2) := by decide +kernel
theorem dL_set_23 : decode cL_set 23 = .ok (.iconst 2, 1) := by decide +kernel
theorem dL_set_24 : decode cL_set 24 = .ok (.ireturn, 1) := by decide +kernel
theorem dL_set_25 : decode cL_set 25 = .ok (.astore 7, 2) := by decide +kernel
theorem dL_set_27 : decode cL_set 27 = .ok (.iconst 3, 1) := by decide +kernel
theorem dL_set_28 : decode cL_set 28 = .ok (.ireturn, 1) := by decide +kernel
theorem dL_set_29 : decode cL_set 29 = .ok (.iconst 0, 1) := by decide +kernel
theorem dL_set_30 : decode cL_set 30 = .ok (.ireturn, 1) := by decide +kernel
theorem dL_get_0 : decode cL_get 0 = .ok (.aload_n 3, 1) := by decide +kernel
theorem dL_get_1 : decode cL_get 1 = .ok (.iconst 0, 1) := by decide +kernel
theorem dL_get_2 : decode cL_get 2 = .ok (.aload_n 0, 1) := by decide +kernel
theorem dL_get_3 : decode cL_get 3 = .ok (.iload_n 1, 1) := by decide +kernel
theorem dL_get_4 : decode cL_get 4 = .ok (.iload_n 2, 1) := by decide +kernel
theorem dL_get_5 : decode cL_get 5 = .ok (.invokevirtual 27, 3) := by decide +kernel
theorem dL_get_8 : decode cL_get 8 = .ok (.lastore, 1) := by decide +kernel
theorem dL_get_9 : decode cL_get 9 = .ok (.goto 11, 3) := by decide +kernel
theorem dL_get_12 : decode cL_get 12 = .ok (.astore 4, 2) := by decide +kernel
theorem dL_get_14 : decode cL_get 14 = .ok (.iconst 1, 1) := by decide +kernel
theorem dL_get_15 : decode cL_get 15 = .ok (.ireturn, 1) := by decide +kernel
theorem dL_get_16 : decode cL_get 16 = .ok (.astore 4, 2) := by decide +kernel
theorem dL_get_18 : decode cL_get 18 = .ok (.iconst 2, 1) := by decide +kernel
theorem dL_get_19 : decode cL_get 19 = .ok (.ireturn, 1) := by decide +kernel
theorem dL_get_20 : decode cL_get 20 = .ok (.iconst 0, 1) := by decide +kernel
theorem dL_get_21 : decode cL_get 21 = .ok (.ireturn, 1) := by decide +kernel
theorem dL_part_0 : decode cL_part 0 = .ok (.aload_n 3, 1) := by decide +kernel
theorem dL_part_1 : decode cL_part 1 = .ok (.iconst 0, 1) := by decide +kernel
theorem dL_part_2 : decode cL_part 2 = .ok (.aload_n 0, 1) := by decide +kernel
theorem dL_part_3 : decode cL_part 3 = .ok (.iload_n 1, 1) := by decide +kernel
theorem dL_part_4 : decode cL_part 4 = .ok (.iload_n 2, 1) := by decide +kernel
theorem dL_part_5 : decode cL_part 5 = .ok (.invokevirtual 31, 3) := by decide +kernel
theorem dL_part_8 : decode cL_part 8 = .ok (.lastore, 1) := by decide +kernel
theorem dL_part_9 : decode cL_part 9 = .ok (.goto 7, 3) := by decide +kernel
theorem dL_part_12 : decode cL_part 12 = .ok (.astore 4, 2) := by decide +kernel
theorem dL_part_14 : decode cL_part 14 = .ok (.iconst 1, 1) := by decide +kernel
theorem dL_part_15 : decode cL_part 15 = .ok (.ireturn, 1) := by decide +kernel
theorem dL_part_16 : decode cL_part 16 = .ok (.iconst 0, 1) := by decide +kernel
theorem dL_part_17 : decode cL_part 17 = .ok (.ireturn, 1) := by decide +kernel
theorem dL_at_0 : decode cL_at 0 = .ok (.aload_n 3, 1) := by decide +kernel
theorem dL_at_1 : decode cL_at 1 = .ok (.iconst 0, 1) := by decide +kernel
theorem dL_at_2 : decode cL_at 2 = .ok (.aload_n 0, 1) := by decide +kernel
theorem dL_at_3 : decode cL_at 3 = .ok (.iload_n 1, 1) := by decide +kernel
theorem dL_at_4 : decode cL_at 4 = .ok (.iload_n 2, 1) := by decide +kernel
theorem dL_at_5 : decode cL_at 5 = .ok (.invokevirtual 34, 3) := by decide +kernel
theorem dL_at_8 : decode cL_at 8 = .ok (.i2l, 1) := by decide +kernel
theorem dL_at_9 : decode cL_at 9 = .ok (.lastore, 1) := by decide +kernel
theorem dL_at_10 : decode cL_at 10 = .ok (.goto 7, 3) := by decide +kernel
theorem dL_at_13 : decode cL_at 13 = .ok (.astore 4, 2) := by decide +kernel
theorem dL_at_15 : decode cL_at 15 = .ok (.iconst 1, 1) := by decide +kernel
theorem dL_at_16 : decode cL_at 16 = .ok (.ireturn, 1) := by decide +kernel
theorem dL_at_17 : decode cL_at 17 = .ok (.iconst 0, 1) := by decide +kernel
theorem dL_at_18 : decode cL_at 18 = .ok (.ireturn, 1) := by decide +kernel
theorem dL_add_0 : decode cL_add 0 = .ok (.aload 6, 2) := by decide +kernel
theorem dL_add_2 : decode cL_add 2 = .ok (.iconst 0, 1) := by decide +kernel
theorem dL_add_3 : decode cL_add 3 = .ok (.aload_n 0, 1) := by decide +kernel
theorem dL_add_4 : decode cL_add 4 = .ok (.iload_n 1, 1) := by decide +kernel
theorem dL_add_5 : decode cL_add 5 = .ok (.iload_n 2, 1) := by decide +kernel
theorem dL_add_6 : decode cL_add 6 = .ok (.lload_n 3, 1) := by decide +kernel
theorem dL_add_7 : decode cL_add 7 = .ok (.iload 5, 2) := by decide +kernel
theorem dL_add_9 : decode cL_add 9 = .ok (.invokevirtual 38, 3) := by decide +kernel
theorem dL_add_12 : decode cL_add 12 = .ok (.i2l, 1) := by decide +kernel
theorem dL_add_13 : decode cL_add 13 = .ok (.lastore, 1) := by decide +kernel
theorem dL_add_14 : decode cL_add 14 = .ok (.goto 15, 3) := by decide +kernel
theorem dL_add_17 : decode cL_add 17 = .ok (.astore 7, 2) := by decide +kernel
theorem dL_add_19 : decode cL_add 19 = .ok (.iconst 1, 1) := by decide +kernel
theorem dL_add_20 : decode cL_add 20 = .ok (.ireturn, 1) := by decide +kernel
theorem dL_add_21 : decode cL_add 21 = .ok (.astore 7, 2) := by decide +kernel
theorem dL_add_23 : decode cL_add 23 = .ok (.iconst 2, 1) := by decide +kernel
theorem dL_add_24 : decode cL_add 24 = .ok (.ireturn, 1) := by decide +kernel
theorem dL_add_25 : decode cL_add 25 = .ok (.astore 7, 2) := by decide +kernel
theorem dL_add_27 : decode cL_add 27 = .ok (.iconst 3, 1) := by decide +kernel
theorem dL_add_28 : decode cL_add 28 = .ok (.ireturn, 1) := by decide +kernel
theorem dL_add_29 : decode cL_add 29 = .ok (.iconst 0, 1) := by decide +kernel
theorem dL_add_30 : decode cL_add 30 = .ok (.ireturn, 1) := by decide +kernel
theorem dL_multiply_0 : decode cL_multiply 0 = .ok (.aload 6, 2) := by decide +kernel
theorem dL_multiply_2 : decode cL_multiply 2 = .ok (.iconst 0, 1) := by decide +kernel
theorem dL_multiply_3 : decode cL_multiply 3 = .ok (.aload_n 0, 1) := by decide +kernel
theorem dL_multiply_4 : decode cL_multiply 4 = .ok (.iload_n 1, 1) := by decide +kernel
theorem dL_multiply_5 : decode cL_multiply 5 = .ok (.iload_n 2, 1) := by decide +kernel
theorem dL_multiply_6 : decode cL_multiply 6 = .ok (.lload_n 3, 1) := by decide +kernel
theorem dL_multiply_7 : decode cL_multiply 7 = .ok (.iload 5, 2) := by decide +kernel
theorem dL_multiply_9 : decode cL_multiply 9 = .ok (.invokevirtual 41, 3) := by decide +kernel
theorem dL_multiply_12 : decode cL_multiply 12 = .ok (.i2l, 1) := by decide +kernel
theorem dL_multiply_13 : decode cL_multiply 13 = .ok (.lastore, 1) := by decide +kernel
theorem dL_multiply_14 : decode cL_multiply 14 = .ok (.goto 15, 3) := by decide +kernel
theorem dL_multiply_17 : decode cL_multiply 17 = .ok (.astore 7, 2) := by decide +kernel
theorem dL_multiply_19 : decode cL_multiply 19 = .ok (.iconst 1, 1) := by decide +kernel
theorem dL_multiply_20 : decode cL_multiply 20 = .ok (.ireturn, 1) := by decide +kernel
theorem dL_multiply_21 : decode cL_multiply 21 = .ok (.astore 7, 2) := by decide +kernel
theorem dL_multiply_23 : decode cL_multiply 23 = .ok (.iconst 2, 1) := by decide +kernel
theorem dL_multiply_24 : decode cL_multiply 24 = .ok (.ireturn, 1) := by decide +kernel
theorem dL_multiply_25 : decode cL_multiply 25 = .ok (.astore 7, 2) := by decide +kernel
theorem dL_multiply_27 : decode cL_multiply 27 = .ok (.iconst 3, 1) := by decide +kernel
theorem dL_multiply_28 : decode cL_multiply 28 = .ok (.ireturn, 1) := by decide +kernel
theorem dL_multiply_29 : decode cL_multiply 29 = .ok (.iconst 0, 1) := by decide +kernel
theorem dL_multiply_30 : decode cL_multiply 30 = .ok (.ireturn, 1) := by decide +kernel
theorem dL_divide_0 : decode cL_divide 0 = .ok (.aload 6, 2) := by decide +kernel
theorem dL_divide_2 : decode cL_divide 2 = .ok (.iconst 0, 1) := by decide +kernel
theorem dL_divide_3 : decode cL_divide 3 = .ok (.aload_n 0, 1) := by decide +kernel
theorem dL_divide_4 : decode cL_divide 4 = .ok (.iload_n 1, 1) := by decide +kernel
theorem dL_divide_5 : decode cL_divide 5 = .ok (.iload_n 2, 1) := by decide +kernel
theorem dL_divide_6 : decode cL_divide 6 = .ok (.lload_n 3, 1) := by decide +kernel
theorem dL_divide_7 : decode cL_divide 7 = .ok (.iload 5, 2) := by decide +kernel
theorem dL_divide_9 : decode cL_divide 9 = .ok (.invokevirtual 44, 3) := by decide +kernel
theorem dL_divide_12 : decode cL_divide 12 = .ok (.i2l, 1) := by decide +kernel
theorem dL_divide_13 : decode cL_divide 13 = .ok (.lastore, 1) := by decide +kernel
theorem dL_divide_14 : decode cL_divide 14 = .ok (.goto 19, 3) := by decide +kernel
theorem dL_divide_17 : decode cL_divide 17 = .ok (.astore 7, 2) := by decide +kernel
theorem dL_divide_19 : decode cL_divide 19 = .ok (.iconst 1, 1) := by decide +kernel
theorem dL_divide_20 : decode cL_divide 20 = .ok (.ireturn, 1) := by decide +kernel
theorem dL_divide_21 : decode cL_divide 21 = .ok (.astore 7, 2) := by decide +kernel
theorem dL_divide_23 : decode cL_divide 23 = .ok (.iconst 2, 1) := by decide +kernel
theorem dL_divide_24 : decode cL_divide 24 = .ok (.ireturn, 1) := by decide +kernel
theorem dL_divide_25 : decode cL_divide 25 = .ok (.astore 7, 2) := by decide +kernel
theorem dL_divide_27 : decode cL_divide 27 = .ok (.iconst 3, 1) := by decide +kernel
theorem dL_divide_28 : decode cL_divide 28 = .ok (.ireturn, 1) := by decide +kernel
theorem dL_divide_29 : decode cL_divide 29 = .ok (.astore 7, 2) := by decide +kernel
theorem dL_divide_31 : decode cL_divide 31 = .ok (.iconst 4, 1) := by decide +kernel
theorem dL_divide_32 : decode cL_divide 32 = .ok (.ireturn, 1) := by decide +kernel
theorem dL_divide_33 : decode cL_divide 33 = .ok (.iconst 0, 1) := by decide +kernel
theorem dL_divide_34 : decode cL_divide 34 = .ok (.ireturn, 1) := by decide +kernel
theorem dL_take_0 : decode cL_take 0 = .ok (.aload_n 2, 1) := by decide +kernel
theorem dL_take_1 : decode cL_take 1 = .ok (.iconst 0, 1) := by decide +kernel
theorem dL_take_2 : decode cL_take 2 = .ok (.aload_n 0, 1) := by decide +kernel
theorem dL_take_3 : decode cL_take 3 = .ok (.iload_n 1, 1) := by decide +kernel
theorem dL_take_4 : decode cL_take 4 = .ok (.invokevirtual 49, 3) := by decide +kernel
theorem dL_take_7 : decode cL_take 7 = .ok (.i2l, 1) := by decide +kernel
theorem dL_take_8 : decode cL_take 8 = .ok (.lastore, 1) := by decide +kernel
theorem dL_take_9 : decode cL_take 9 = .ok (.goto 6, 3) := by decide +kernel
theorem dL_take_12 : decode cL_take 12 = .ok (.astore_n 3, 1) := by decide +kernel
theorem dL_take_13 : decode cL_take 13 = .ok (.iconst 1, 1) := by decide +kernel
theorem dL_take_14 : decode cL_take 14 = .ok (.ireturn, 1) := by decide +kernel
theorem dL_take_15 : decode cL_take 15 = .ok (.iconst 0, 1) := by decide +kernel
theorem dL_take_16 : decode cL_take 16 = .ok (.ireturn, 1) := by decide +kernel
theorem dL_group_0 : decode cL_group 0 = .ok (.aload_n 1, 1) := by decide +kernel
theorem dL_group_1 : decode cL_group 1 = .ok (.iconst 0, 1) := by decide +kernel
theorem dL_group_2 : decode cL_group 2 = .ok (.aload_n 0, 1) := by decide +kernel
theorem dL_group_3 : decode cL_group 3 = .ok (.invokevirtual 52, 3) := by decide +kernel
theorem dL_group_6 : decode cL_group 6 = .ok (.i2l, 1) := by decide +kernel
theorem dL_group_7 : decode cL_group 7 = .ok (.lastore, 1) := by decide +kernel
theorem dL_group_8 : decode cL_group 8 = .ok (.goto 6, 3) := by decide +kernel
theorem dL_group_11 : decode cL_group 11 = .ok (.astore_n 2, 1) := by decide +kernel
theorem dL_group_12 : decode cL_group 12 = .ok (.iconst 1, 1) := by decide +kernel
theorem dL_group_13 : decode cL_group 13 = .ok (.ireturn, 1) := by decide +kernel
theorem dL_group_14 : decode cL_group 14 = .ok (.iconst 0, 1) := by decide +kernel
theorem dL_group_15 : decode cL_group 15 = .ok (.ireturn, 1) := by decide +kernel
theorem dL_after_0 : decode cL_after 0 = .ok (.aload_n 2, 1) := by decide +kernel
theorem dL_after_1 : decode cL_after 1 = .ok (.iconst 0, 1) := by decide +kernel
theorem dL_after_2 : decode cL_after 2 = .ok (.aload_n 0, 1) := by decide +kernel
theorem dL_after_3 : decode cL_after 3 = .ok (.iload_n 1, 1) := by decide +kernel
theorem dL_after_4 : decode cL_after 4 = .ok (.invokevirtual 56, 3) := by decide +kernel
theorem dL_after_7 : decode cL_after 7 = .ok (.i2l, 1) := by decide +kernel
theorem dL_after_8 : decode cL_after 8 = .ok (.lastore, 1) := by decide +kernel
theorem dL_after_9 : decode cL_after 9 = .ok (.goto 12, 3) := by decide +kernel
theorem dL_after_12 : decode cL_after 12 = .ok (.astore_n 3, 1) := by decide +kernel
theorem dL_after_13 : decode cL_after 13 = .ok (.iconst 1, 1) := by decide +kernel
theorem dL_after_14 : decode cL_after 14 = .ok (.ireturn, 1) := by decide +kernel
theorem dL_after_15 : decode cL_after 15 = .ok (.astore_n 3, 1) := by decide +kernel
theorem dL_after_16 : decode cL_after 16 = .ok (.iconst 2, 1) := by decide +kernel
theorem dL_after_17 : decode cL_after 17 = .ok (.ireturn, 1) := by decide +kernel
theorem dL_after_18 : decode cL_after 18 = .ok (.astore_n 3, 1) := by decide +kernel
theorem dL_after_19 : decode cL_after 19 = .ok (.iconst 3, 1) := by decide +kernel
theorem dL_after_20 : decode cL_after 20 = .ok (.ireturn, 1) := by decide +kernel
theorem dL_after_21 : decode cL_after 21 = .ok (.iconst 0, 1) := by decide +kernel
theorem dL_after_22 : decode cL_after 22 = .ok (.ireturn, 1) := by decide +kernel
theorem dL_end_0 : decode cL_end 0 = .ok (.aload_n 1, 1) := by decide +kernel
theorem dL_end_1 : decode cL_end 1 = .ok (.iconst 0, 1) := by decide +kernel
theorem dL_end_2 : decode cL_end 2 = .ok (.aload_n 0, 1) := by decide +kernel
theorem dL_end_3 : decode cL_end 3 = .ok (.invokevirtual 61, 3) := by decide +kernel
theorem dL_end_6 : decode cL_end 6 = .ok (.i2l, 1) := by decide +kernel
theorem dL_end_7 : decode cL_end 7 = .ok (.lastore, 1) := by decide +kernel
theorem dL_end_8 : decode cL_end 8 = .ok (.goto 6, 3) := by decide +kernel
theorem dL_end_11 : decode cL_end 11 = .ok (.astore_n 2, 1) := by decide +kernel
theorem dL_end_12 : decode cL_end 12 = .ok (.iconst 1, 1) := by decide +kernel
theorem dL_end_13 : decode cL_end 13 = .ok (.ireturn, 1) := by decide +kernel
theorem dL_end_14 : decode cL_end 14 = .ok (.iconst 0, 1) := by decide +kernel
theorem dL_end_15 : decode cL_end 15 = .ok (.ireturn, 1) := by decide +kernel
theorem dL_restored_0 : decode cL_restored 0 = .ok (.aload_n 3, 1) := by decide +kernel
theorem dL_restored_1 : decode cL_restored 1 = .ok (.iconst 0, 1) := by decide +kernel
theorem dL_restored_2 : decode cL_restored 2 = .ok (.aload_n 0, 1) := by decide +kernel
theorem dL_restored_3 : decode cL_restored 3 = .ok (.iload_n 1, 1) := by decide +kernel
theorem dL_restored_4 : decode cL_restored 4 = .ok (.iload_n 2, 1) := by decide +kernel
theorem dL_restored_5 : decode cL_restored 5 = .ok (.invokevirtual 64, 3) := by decide +kernel
theorem dL_restored_8 : decode cL_restored 8 = .ok (.i2l, 1) := by decide +kernel
theorem dL_restored_9 : decode cL_restored 9 = .ok (.lastore, 1) := by decide +kernel
theorem dL_restored_10 : decode cL_restored 10 = .ok (.goto 7, 3) := by decide +kernel
theorem dL_restored_13 : decode cL_restored 13 = .ok (.astore 4, 2) := by decide +kernel
theorem dL_restored_15 : decode cL_restored 15 = .ok (.iconst 1, 1) := by decide +kernel
theorem dL_restored_16 : decode cL_restored 16 = .ok (.ireturn, 1) := by decide +kernel
theorem dL_restored_17 : decode cL_restored 17 = .ok (.iconst 0, 1) := by decide +kernel
theorem dL_restored_18 : decode cL_restored 18 = .ok (.ireturn, 1) := by decide +kernel
theorem dL_scaled_0 : decode cL_scaled 0 = .ok (.aload 4, 2) := by decide +kernel
theorem dL_scaled_2 : decode cL_scaled 2 = .ok (.iconst 0, 1) := by decide +kernel
theorem dL_scaled_3 : decode cL_scaled 3 = .ok (.aload_n 0, 1) := by decide +kernel
theorem dL_scaled_4 : decode cL_scaled 4 = .ok (.iload_n 1, 1) := by decide +kernel
theorem dL_scaled_5 : decode cL_scaled 5 = .ok (.iload_n 2, 1) := by decide +kernel
theorem dL_scaled_6 : decode cL_scaled 6 = .ok (.iload_n 3, 1) := by decide +kernel
theorem dL_scaled_7 : decode cL_scaled 7 = .ok (.invokevirtual 67, 3) := by decide +kernel
theorem dL_scaled_10 : decode cL_scaled 10 = .ok (.lastore, 1) := by decide +kernel
theorem dL_scaled_11 : decode cL_scaled 11 = .ok (.goto 7, 3) := by decide +kernel
theorem dL_scaled_14 : decode cL_scaled 14 = .ok (.astore 5, 2) := by decide +kernel
theorem dL_scaled_16 : decode cL_scaled 16 = .ok (.iconst 1, 1) := by decide +kernel
theorem dL_scaled_17 : decode cL_scaled 17 = .ok (.ireturn, 1) := by decide +kernel
theorem dL_scaled_18 : decode cL_scaled 18 = .ok (.iconst 0, 1) := by decide +kernel
theorem dL_scaled_19 : decode cL_scaled 19 = .ok (.ireturn, 1) := by decide +kernel
theorem dL_fraction_0 : decode cL_fraction 0 = .ok (.aload_n 3, 1) := by decide +kernel
theorem dL_fraction_1 : decode cL_fraction 1 = .ok (.iconst 0, 1) := by decide +kernel
theorem dL_fraction_2 : decode cL_fraction 2 = .ok (.aload_n 0, 1) := by decide +kernel
theorem dL_fraction_3 : decode cL_fraction 3 = .ok (.iload_n 1, 1) := by decide +kernel
theorem dL_fraction_4 : decode cL_fraction 4 = .ok (.iload_n 2, 1) := by decide +kernel
theorem dL_fraction_5 : decode cL_fraction 5 = .ok (.invokevirtual 71, 3) := by decide +kernel
theorem dL_fraction_8 : decode cL_fraction 8 = .ok (.i2l, 1) := by decide +kernel
theorem dL_fraction_9 : decode cL_fraction 9 = .ok (.lastore, 1) := by decide +kernel
theorem dL_fraction_10 : decode cL_fraction 10 = .ok (.goto 7, 3) := by decide +kernel
theorem dL_fraction_13 : decode cL_fraction 13 = .ok (.astore 4, 2) := by decide +kernel
theorem dL_fraction_15 : decode cL_fraction 15 = .ok (.iconst 1, 1) := by decide +kernel
theorem dL_fraction_16 : decode cL_fraction 16 = .ok (.ireturn, 1) := by decide +kernel
theorem dL_fraction_17 : decode cL_fraction 17 = .ok (.iconst 0, 1) := by decide +kernel
theorem dL_fraction_18 : decode cL_fraction 18 = .ok (.ireturn, 1) := by decide +kernel
theorem dL_shown_0 : decode cL_shown 0 = .ok (.aload 4, 2) := by decide +kernel
theorem dL_shown_2 : decode cL_shown 2 = .ok (.iconst 0, 1) := by decide +kernel
theorem dL_shown_3 : decode cL_shown 3 = .ok (.aload_n 0, 1) := by decide +kernel
theorem dL_shown_4 : decode cL_shown 4 = .ok (.iload_n 1, 1) := by decide +kernel
theorem dL_shown_5 : decode cL_shown 5 = .ok (.iload_n 2, 1) := by decide +kernel
theorem dL_shown_6 : decode cL_shown 6 = .ok (.iload_n 3, 1) := by decide +kernel
theorem dL_shown_7 : decode cL_shown 7 = .ok (.invokevirtual 74, 3) := by decide +kernel
theorem dL_shown_10 : decode cL_shown 10 = .ok (.i2l, 1) := by decide +kernel
theorem dL_shown_11 : decode cL_shown 11 = .ok (.lastore, 1) := by decide +kernel
theorem dL_shown_12 : decode cL_shown 12 = .ok (.goto 11, 3) := by decide +kernel
theorem dL_shown_15 : decode cL_shown 15 = .ok (.astore 5, 2) := by decide +kernel
theorem dL_shown_17 : decode cL_shown 17 = .ok (.iconst 1, 1) := by decide +kernel
theorem dL_shown_18 : decode cL_shown 18 = .ok (.ireturn, 1) := by decide +kernel
theorem dL_shown_19 : decode cL_shown 19 = .ok (.astore 5, 2) := by decide +kernel
theorem dL_shown_21 : decode cL_shown 21 = .ok (.iconst 2, 1) := by decide +kernel
theorem dL_shown_22 : decode cL_shown 22 = .ok (.ireturn, 1) := by decide +kernel
theorem dL_shown_23 : decode cL_shown 23 = .ok (.iconst 0, 1) := by decide +kernel
theorem dL_shown_24 : decode cL_shown 24 = .ok (.ireturn, 1) := by decide +kernel
theorem dL_told_0 : decode cL_told 0 = .ok (.aload_n 3, 1) := by decide +kernel
theorem dL_told_1 : decode cL_told 1 = .ok (.iconst 0, 1) := by decide +kernel
theorem dL_told_2 : decode cL_told 2 = .ok (.aload_n 0, 1) := by decide +kernel
theorem dL_told_3 : decode cL_told 3 = .ok (.iload_n 1, 1) := by decide +kernel
theorem dL_told_4 : decode cL_told 4 = .ok (.iload_n 2, 1) := by decide +kernel
theorem dL_told_5 : decode cL_told 5 = .ok (.invokevirtual 78, 3) := by decide +kernel
theorem dL_told_8 : decode cL_told 8 = .ok (.i2l, 1) := by decide +kernel
theorem dL_told_9 : decode cL_told 9 = .ok (.lastore, 1) := by decide +kernel
theorem dL_told_10 : decode cL_told 10 = .ok (.goto 11, 3) := by decide +kernel
theorem dL_told_13 : decode cL_told 13 = .ok (.astore 4, 2) := by decide +kernel
theorem dL_told_15 : decode cL_told 15 = .ok (.iconst 1, 1) := by decide +kernel
theorem dL_told_16 : decode cL_told 16 = .ok (.ireturn, 1) := by decide +kernel
theorem dL_told_17 : decode cL_told 17 = .ok (.astore 4, 2) := by decide +kernel
theorem dL_told_19 : decode cL_told 19 = .ok (.iconst 2, 1) := by decide +kernel
theorem dL_told_20 : decode cL_told 20 = .ok (.ireturn, 1) := by decide +kernel
theorem dL_told_21 : decode cL_told 21 = .ok (.iconst 0, 1) := by decide +kernel
theorem dL_told_22 : decode cL_told 22 = .ok (.ireturn, 1) := by decide +kernel

theorem ou_keep {D : va_G} {cl : List vw_C} {n : Nat} {ad : Nat → Nat} {ou : Nat} {e : va_E} {H H1 : Heap} (hQ : va_P D cl [(ou, e)] H) (hou : ∀ k, k < n → ou ≠ ad k) (hk : ∀ q : Nat, q < H.size → ¬ fA n ad H.size q → H1[q]? = H[q]?) : va_P D cl [(ou, e)] H1 := hQ.kept (fun k z hz => hk z.1 (hQ k z hz).lt (fun h9 => by
  have h1 := (List.getElem?_eq_some_iff.mp hz).1
  simp only [List.length_singleton] at h1
  have h2 : k = 0 := by omega
  subst h2
  have hlt := (hQ 0 z hz).lt
  cases hz
  rcases h9 with ⟨j, hj, e9⟩ | h9
  · exact hou j hj e9
  · exact absurd hlt (Nat.not_lt.mpr h9)))

def k_L_token (o : Nat) : Int32 := if o = 1 then 1 else  0
set_option maxHeartbeats 4000000 in
set_option maxRecDepth 100000 in
theorem c_L_token (l : Launch) (hst : l.stackTraces = false) (dC : Nat → ClassId) (dI : Nat → Nat → Nat) (cI cJ : ClassId) (ad : Nat → Nat) (hi : fI 23 ad) (sz : Nat) (ou : Nat) (hou : ∀ k, k < 23 → ou ≠ ad k) (Ou : Nat → Int64) (Bc : Nat → Int64) (Bl : Nat → Int32) (Pk : Nat → Int32) (Pr : Nat → Int32) (Pl : Nat → Int32) (Pc : Nat → Int64) (Pm : Int32) (Gf : Nat → Int32) (Gt : Nat → Int32) (Gx : Nat → Int32) (Gd : Int32) (Gm : Int32) (Ek : Nat → Int32) (Er : Nat → Int32) (Ea : Nat → Int32) (Ex : Nat → Int32) (Em : Int32) (Eb : Int32) (Et : Int32) (Ss : Nat → Int32) (Sm : Int32) (Wg : Nat → Int64) (Wr : Nat → Int64) (Md : Nat → Int64) (a0 : Int32) (hs : S_X5_token a0 Wr) (ho : (f_X5_token a0 Wr).1 = 0 ∨ (f_X5_token a0 Wr).1 = 1) : Met l yL_token (mWh yL_token cL_token 4 (some .int) [(0, 9, 12, 13)]) { frames := 8, cells := 1, slots := 6, locals := 134 } (va_Pc [.ref (ad 0), .int a0, .ref ou] (fun U => U.heap.size = sz ∧ va_P (dC, dI) vwCl (wC ad cI cJ Bc Bl Pk Pr Pl Pc Pm Gf Gt Gx Gd Gm Ek Er Ea Ex Em Eb Et Ss Sm Wg Wr Md) U.heap ∧ va_K (dC, dI) vwCl [(cI, .int), (cJ, .long)] U ∧ cxt (fO 23 ad ou sz) U U.heap ∧ va_P (dC, dI) vwCl [(ou, .inl (cJ, 1, .inr (.inl Ou)))] U.heap)) (va_Qi (fun (r : Int32) (_ : Unit) => r = k_L_token ((f_X5_token a0 Wr).1)) (fun _ t => va_P (dC, dI) vwCl (wC ad cI cJ Bc Bl Pk Pr Pl Pc Pm Gf Gt Gx Gd Gm Ek Er Ea Ex Em Eb Et Ss Sm Wg ((f_X5_token a0 Wr).2.2) Md) t.heap ∧ va_P (dC, dI) vwCl [(ou, .inl (cJ, 1, .inr (.inl (if (f_X5_token a0 Wr).1 = 0 then vp_updL Ou (0 : Int32).toNatClampNeg ((f_X5_token a0 Wr).2.1.toInt64) else Ou))))] t.heap) (fO 23 ad ou sz)) 1 6 (fO 23 ad ou sz) := by
  refine Met.ofWH (cc := cL_token) (maxL := 4) (ret := (some .int)) (hh := [(0, 9, 12, 13)]) (by decide) rfl ?_
  intro p e s m args below meth c s₁ B hml hv
  obtain ⟨rfl, hsz, hP, hK, hC, hQ⟩ := hv
  have hx := B.exec
  have hb := B.bytes
  have hr := B.returns
  have hat := atoms_spec (ws := (mWh yL_token cL_token 4 (some .int) [(0, 9, 12, 13)])) B.pre
  have hts := mWh_hts hat
  have htab := vx_table (x := yL_token) B (hat _ List.mem_cons_self)
  have hown : s.vm.findClass RL = some m.cls := findClass_of_methodNamed B.named
  have hlocks := B.notSynchronized
  subst hsz
  have hS : va_S (fO 23 ad ou s.heap.size) s.heap s.heap [] := va_S.rf
  have hl := lv_entry ([.ref (ad 0), .int a0, .ref ou]) (n := 4) (Nat.le_of_ble_eq_true rfl)
  rw [lg_entry_eq]
  generalize (lg_sl ([.ref (ad 0), .int a0, .ref ou]) ++ List.replicate (4 - (lg_sl ([.ref (ad 0), .int a0, .ref ou])).length) Slot.unset).toArray = ls at hl ⊢
  have hl : lv_has ls 4 [(0, .ref (ad 0)), (1, .int a0), (2, .ref ou)] := hl
  refine lv_aload_n hx hb dL_token_0 rfl (lv_at hl 2 rfl) ?_
  refine lv_iconst (v := 0) hx hb dL_token_1 (by decide) ?_
  refine lv_aload_n hx hb dL_token_2 rfl (lv_at hl 0 rfl) ?_
  refine lv_iload_n hx hb dL_token_3 rfl (lv_at hl 1 rfl) ?_
  obtain ⟨u, hu⟩ : ∃ z, z = f_X5_token a0 Wr := ⟨_, rfl⟩
  rw [← hu] at ho
  refine qf_X5_token hst hx hb hml hown hts mM_RL_7 ⟨Nat.le_of_ble_eq_true rfl, Nat.le_of_ble_eq_true rfl⟩ ⟨Nat.le_of_ble_eq_true rfl, Nat.le_of_ble_eq_true rfl⟩ hl.1 (Nat.le_of_ble_eq_true rfl) hS dL_token_4 (fun _ h9 => Or.inl (fA_mono hS.1 h9)) hi hK hP hC a0 hs u hu (fun hE c1 H1 locs1 hP hS hk9 hz9 ce q9 h71 h72 h73 => ?_) (fun c1 H1 locs1 hP hS hk9 hz9 => ?_)
  · rcases ho with h | h
    · exact absurd h c1
    · rw [h] at hE
      have hE : _ = x_IAE := hE
      subst hE
      refine vx_catch (name := x_IAE) (own := RL) (E := x_IAE) hown [] ⟨0, 9, 12, 13⟩ [] (by rw [htab]; rfl) (fun _ h => absurd h List.not_mem_nil) (by decide) (by decide) (hts _ mC_RL_13) (hC.ca _ (by decide +kernel)) h71 h72 h73 ?_
      refine lv_astore_n (lv' := [(3, .ref q9), (0, .ref (ad 0)), (1, .int a0), (2, .ref ou)]) hx hb dL_token_12 rfl hl (by decide) rfl (fun ls hl => ?_)
      refine lv_iconst (v := 1) hx hb dL_token_13 (by decide) ?_
      have hQ := ou_keep hQ hou hk9
      exact W.iret (v := 1) hx hb hr (fun t ht hW => ⟨⟨1, (), rfl, by rw [← hu, h]; rfl, ⟨by show va_P (dC, dI) vwCl _ t.heap; rw [ht]; first | exact hP | (rw [← hu]; exact hP), by rw [ht, ← hu, if_neg (by rw [h]; decide)]; exact hQ⟩⟩, hS.F ht⟩) hS.2.2 dL_token_14
  · have hQ := ou_keep hQ hou hk9
    refine lv_i2l hx hb dL_token_7 rfl ?_
    have hPQ : va_P (dC, dI) vwCl ((wC ad cI cJ Bc Bl Pk Pr Pl Pc Pm Gf Gt Gx Gd Gm Ek Er Ea Ex Em Eb Et Ss Sm Wg u.2.2 Md) ++ [(ou, .inl (cJ, 1, .inr (.inl Ou)))]) H1 := hP.app hQ
    refine va_last hx hb hK hPQ (ou_D hi hou rfl) hS 23 1 rfl rfl (by unfold vp_in; decide) dL_token_8 (fun H2 locs2 hPQ _ hS => ?_)
    have hPQ : va_P (dC, dI) vwCl ((wC ad cI cJ Bc Bl Pk Pr Pl Pc Pm Gf Gt Gx Gd Gm Ek Er Ea Ex Em Eb Et Ss Sm Wg u.2.2 Md) ++ [(ou, .inl (cJ, 1, .inr (.inl (vp_updL Ou (0 : Int32).toNatClampNeg u.2.1.toInt64))))]) H2 := hPQ
    have hP := hPQ.sub (ws' := (wC ad cI cJ Bc Bl Pk Pr Pl Pc Pm Gf Gt Gx Gd Gm Ek Er Ea Ex Em Eb Et Ss Sm Wg u.2.2 Md)) [0, 1, 2, 3, 4, 5, 6, 7, 8, 9, 10, 11, 12, 13, 14, 15, 16, 17, 18, 19, 20, 21, 22] rfl
    have hQ := hPQ.sub (ws' := [(ou, .inl (cJ, 1, .inr (.inl (vp_updL Ou (0 : Int32).toNatClampNeg u.2.1.toInt64))))]) [23] rfl
    refine lv_goto (tgt := 15) hx hb dL_token_9 (by decide) ?_
    refine lv_iconst (v := 0) hx hb dL_token_15 (by decide) ?_
    exact W.iret (v := 0) hx hb hr (fun t ht hW => ⟨⟨0, (), rfl, by rw [← hu, c1]; rfl, ⟨by show va_P (dC, dI) vwCl _ t.heap; rw [ht]; first | exact hP | (rw [← hu]; exact hP), by rw [ht, ← hu, if_pos c1]; exact hQ⟩⟩, hS.F ht⟩) hS.2.2 dL_token_16

def k_L_glue (o : Nat) : Int32 := if o = 1 then 1 else  0
set_option maxHeartbeats 4000000 in
set_option maxRecDepth 100000 in
theorem c_L_glue (l : Launch) (hst : l.stackTraces = false) (dC : Nat → ClassId) (dI : Nat → Nat → Nat) (cI cJ : ClassId) (ad : Nat → Nat) (hi : fI 23 ad) (sz : Nat) (Bc : Nat → Int64) (Bl : Nat → Int32) (Pk : Nat → Int32) (Pr : Nat → Int32) (Pl : Nat → Int32) (Pc : Nat → Int64) (Pm : Int32) (Gf : Nat → Int32) (Gt : Nat → Int32) (Gx : Nat → Int32) (Gd : Int32) (Gm : Int32) (Ek : Nat → Int32) (Er : Nat → Int32) (Ea : Nat → Int32) (Ex : Nat → Int32) (Em : Int32) (Eb : Int32) (Et : Int32) (Ss : Nat → Int32) (Sm : Int32) (Wg : Nat → Int64) (Wr : Nat → Int64) (Md : Nat → Int64) (a0 : Int64) (a1 : Int64) (a2 : Int32) (a3 : Int64) (a4 : Int32) (hs : S_X5_glue a0 a1 a2 a3 a4 Wg) (ho : (f_X5_glue a0 a1 a2 a3 a4 Wg).1 = 0 ∨ (f_X5_glue a0 a1 a2 a3 a4 Wg).1 = 1) : Met l yL_glue (mWh yL_glue cL_glue 10 (some .int) [(0, 12, 15, 13)]) { frames := 7, cells := 1, slots := 6, locals := 120 } (va_Pc [.ref (ad 0), .long a0, .long a1, .int a2, .long a3, .int a4] (fun U => U.heap.size = sz ∧ va_P (dC, dI) vwCl (wC ad cI cJ Bc Bl Pk Pr Pl Pc Pm Gf Gt Gx Gd Gm Ek Er Ea Ex Em Eb Et Ss Sm Wg Wr Md) U.heap ∧ va_K (dC, dI) vwCl [(cI, .int), (cJ, .long)] U ∧ cxt (fA 23 ad sz) U U.heap)) (va_Qi (fun (r : Int32) (_ : Unit) => r = k_L_glue ((f_X5_glue a0 a1 a2 a3 a4 Wg).1)) (fun _ t => va_P (dC, dI) vwCl (wC ad cI cJ Bc Bl Pk Pr Pl Pc Pm Gf Gt Gx Gd Gm Ek Er Ea Ex Em Eb Et Ss Sm ((f_X5_glue a0 a1 a2 a3 a4 Wg).2) Wr Md) t.heap) (fA 23 ad sz)) 1 6 (fA 23 ad sz) := by
  refine Met.ofWH (cc := cL_glue) (maxL := 10) (ret := (some .int)) (hh := [(0, 12, 15, 13)]) (by decide) rfl ?_
  intro p e s m args below meth c s₁ B hml hv
  obtain ⟨rfl, hsz, hP, hK, hC⟩ := hv
  have hx := B.exec
  have hb := B.bytes
  have hr := B.returns
  have hat := atoms_spec (ws := (mWh yL_glue cL_glue 10 (some .int) [(0, 12, 15, 13)])) B.pre
  have hts := mWh_hts hat
  have htab := vx_table (x := yL_glue) B (hat _ List.mem_cons_self)
  have hown : s.vm.findClass RL = some m.cls := findClass_of_methodNamed B.named
  have hlocks := B.notSynchronized
  subst hsz
  have hS : va_S (fA 23 ad s.heap.size) s.heap s.heap [] := va_S.rf
  have hl := lv_entry ([.ref (ad 0), .long a0, .long a1, .int a2, .long a3, .int a4]) (n := 10) (Nat.le_of_ble_eq_true rfl)
  rw [lg_entry_eq]
  generalize (lg_sl ([.ref (ad 0), .long a0, .long a1, .int a2, .long a3, .int a4]) ++ List.replicate (10 - (lg_sl ([.ref (ad 0), .long a0, .long a1, .int a2, .long a3, .int a4])).length) Slot.unset).toArray = ls at hl ⊢
  have hl : lv_has ls 10 [(0, .ref (ad 0)), (1, .long a0), (3, .long a1), (5, .int a2), (6, .long a3), (8, .int a4)] := hl
  refine lv_aload_n hx hb dL_glue_0 rfl (lv_at hl 0 rfl) ?_
  refine lv_lload_n hx hb dL_glue_1 rfl (lv_at hl 1 rfl) ?_
  refine lv_lload_n hx hb dL_glue_2 rfl (lv_at hl 2 rfl) ?_
  refine lv_iload hx hb dL_glue_3 (lv_at hl 3 rfl) ?_
  refine lv_lload hx hb dL_glue_5 (lv_at hl 4 rfl) ?_
  refine lv_iload hx hb dL_glue_7 (lv_at hl 5 rfl) ?_
  obtain ⟨u, hu⟩ : ∃ z, z = f_X5_glue a0 a1 a2 a3 a4 Wg := ⟨_, rfl⟩
  rw [← hu] at ho
  refine qf_X5_glue hst hx hb hml hown hts mM_RL_15 ⟨Nat.le_of_ble_eq_true rfl, Nat.le_of_ble_eq_true rfl⟩ ⟨Nat.le_of_ble_eq_true rfl, Nat.le_of_ble_eq_true rfl⟩ hl.1 (Nat.le_of_ble_eq_true rfl) hS dL_glue_9 (fun _ h9 => fA_mono hS.1 h9) hi hK hP hC a0 a1 a2 a3 a4 hs u hu (fun hE c1 H1 locs1 hP hS hk9 hz9 ce q9 h71 h72 h73 => ?_) (fun c1 H1 locs1 hP hS hk9 hz9 => ?_)
  · rcases ho with h | h
    · exact absurd h c1
    · rw [h] at hE
      have hE : _ = x_IAE := hE
      subst hE
      refine vx_catch (name := x_IAE) (own := RL) (E := x_IAE) hown [] ⟨0, 12, 15, 13⟩ [] (by rw [htab]; rfl) (fun _ h => absurd h List.not_mem_nil) (by decide) (by decide) (hts _ mC_RL_13) (hC.ca _ (by decide +kernel)) h71 h72 h73 ?_
      refine lv_astore (lv' := [(9, .ref q9), (0, .ref (ad 0)), (1, .long a0), (3, .long a1), (5, .int a2), (6, .long a3), (8, .int a4)]) hx hb dL_glue_15 hl (by decide) rfl (fun ls hl => ?_)
      refine lv_iconst (v := 1) hx hb dL_glue_17 (by decide) ?_
      exact W.iret (v := 1) hx hb hr (fun t ht hW => ⟨⟨1, (), rfl, by rw [← hu, h]; rfl, by show va_P (dC, dI) vwCl _ t.heap; rw [ht]; first | exact hP | (rw [← hu]; exact hP)⟩, hS.F ht⟩) hS.2.2 dL_glue_18
  · skip
    refine lv_goto (tgt := 19) hx hb dL_glue_12 (by decide) ?_
    refine lv_iconst (v := 0) hx hb dL_glue_19 (by decide) ?_
    exact W.iret (v := 0) hx hb hr (fun t ht hW => ⟨⟨0, (), rfl, by rw [← hu, c1]; rfl, by show va_P (dC, dI) vwCl _ t.heap; rw [ht]; first | exact hP | (rw [← hu]; exact hP)⟩, hS.F ht⟩) hS.2.2 dL_glue_20

def k_L_set (o : Nat) : Int32 := if o = 1 then 1 else if o = 2 then 2 else if o = 3 then 3 else  0
set_option maxHeartbeats 4000000 in
set_option maxRecDepth 100000 in
theorem c_L_set (l : Launch) (hst : l.stackTraces = false) (dC : Nat → ClassId) (dI : Nat → Nat → Nat) (cI cJ : ClassId) (ad : Nat → Nat) (hi : fI 23 ad) (sz : Nat) (ou : Nat) (hou : ∀ k, k < 23 → ou ≠ ad k) (Ou : Nat → Int64) (Bc : Nat → Int64) (Bl : Nat → Int32) (Pk : Nat → Int32) (Pr : Nat → Int32) (Pl : Nat → Int32) (Pc : Nat → Int64) (Pm : Int32) (Gf : Nat → Int32) (Gt : Nat → Int32) (Gx : Nat → Int32) (Gd : Int32) (Gm : Int32) (Ek : Nat → Int32) (Er : Nat → Int32) (Ea : Nat → Int32) (Ex : Nat → Int32) (Em : Int32) (Eb : Int32) (Et : Int32) (Ss : Nat → Int32) (Sm : Int32) (Wg : Nat → Int64) (Wr : Nat → Int64) (Md : Nat → Int64) (a0 : Int32) (a1 : Int32) (a2 : Int64) (a3 : Int32) (hs : S_X5_set a0 a1 a2 a3 Bc Bl Pk Pr Pl Pc Pm Gd Wg Wr Md) (ho : (f_X5_set a0 a1 a2 a3 Bc Bl Pk Pr Pl Pc Pm Gd Wg Wr Md).1 = 0 ∨ (f_X5_set a0 a1 a2 a3 Bc Bl Pk Pr Pl Pc Pm Gd Wg Wr Md).1 = 1 ∨ (f_X5_set a0 a1 a2 a3 Bc Bl Pk Pr Pl Pc Pm Gd Wg Wr Md).1 = 2 ∨ (f_X5_set a0 a1 a2 a3 Bc Bl Pk Pr Pl Pc Pm Gd Wg Wr Md).1 = 3) : Met l yL_set (mWh yL_set cL_set 8 (some .int) [(0, 14, 17, 13), (0, 14, 21, 23), (0, 14, 25, 25)]) { frames := 8, cells := 3, slots := 18, locals := 142 } (va_Pc [.ref (ad 0), .int a0, .int a1, .long a2, .int a3, .ref ou] (fun U => U.heap.size = sz ∧ va_P (dC, dI) vwCl (wC ad cI cJ Bc Bl Pk Pr Pl Pc Pm Gf Gt Gx Gd Gm Ek Er Ea Ex Em Eb Et Ss Sm Wg Wr Md) U.heap ∧ va_K (dC, dI) vwCl [(cI, .int), (cJ, .long)] U ∧ cxt (fO 23 ad ou sz) U U.heap ∧ va_P (dC, dI) vwCl [(ou, .inl (cJ, 1, .inr (.inl Ou)))] U.heap)) (va_Qi (fun (r : Int32) (_ : Unit) => r = k_L_set ((f_X5_set a0 a1 a2 a3 Bc Bl Pk Pr Pl Pc Pm Gd Wg Wr Md).1)) (fun _ t => va_P (dC, dI) vwCl (wC ad cI cJ ((f_X5_set a0 a1 a2 a3 Bc Bl Pk Pr Pl Pc Pm Gd Wg Wr Md).2.2.1) ((f_X5_set a0 a1 a2 a3 Bc Bl Pk Pr Pl Pc Pm Gd Wg Wr Md).2.2.2.1) ((f_X5_set a0 a1 a2 a3 Bc Bl Pk Pr Pl Pc Pm Gd Wg Wr Md).2.2.2.2.1) ((f_X5_set a0 a1 a2 a3 Bc Bl Pk Pr Pl Pc Pm Gd Wg Wr Md).2.2.2.2.2.1) ((f_X5_set a0 a1 a2 a3 Bc Bl Pk Pr Pl Pc Pm Gd Wg Wr Md).2.2.2.2.2.2.1) ((f_X5_set a0 a1 a2 a3 Bc Bl Pk Pr Pl Pc Pm Gd Wg Wr Md).2.2.2.2.2.2.2.1) ((f_X5_set a0 a1 a2 a3 Bc Bl Pk Pr Pl Pc Pm Gd Wg Wr Md).2.2.2.2.2.2.2.2.1) Gf Gt Gx Gd Gm Ek Er Ea Ex Em Eb Et Ss Sm Wg ((f_X5_set a0 a1 a2 a3 Bc Bl Pk Pr Pl Pc Pm Gd Wg Wr Md).2.2.2.2.2.2.2.2.2.1) ((f_X5_set a0 a1 a2 a3 Bc Bl Pk Pr Pl Pc Pm Gd Wg Wr Md).2.2.2.2.2.2.2.2.2.2)) t.heap ∧ va_P (dC, dI) vwCl [(ou, .inl (cJ, 1, .inr (.inl (if (f_X5_set a0 a1 a2 a3 Bc Bl Pk Pr Pl Pc Pm Gd Wg Wr Md).1 = 0 then vp_updL Ou (0 : Int32).toNatClampNeg ((f_X5_set a0 a1 a2 a3 Bc Bl Pk Pr Pl Pc Pm Gd Wg Wr Md).2.1.toInt64) else Ou))))] t.heap) (fO 23 ad ou sz)) 3 18 (fO 23 ad ou sz) := by
  refine Met.ofWH (cc := cL_set) (maxL := 8) (ret := (some .int)) (hh := [(0, 14, 17, 13), (0, 14, 21, 23), (0, 14, 25, 25)]) (by decide) rfl ?_
  intro p e s m args below meth c s₁ B hml hv
  obtain ⟨rfl, hsz, hP, hK, hC, hQ⟩ := hv
  have hx := B.exec
  have hb := B.bytes
  have hr := B.returns
  have hat := atoms_spec (ws := (mWh yL_set cL_set 8 (some .int) [(0, 14, 17, 13), (0, 14, 21, 23), (0, 14, 25, 25)])) B.pre
  have hts := mWh_hts hat
  have htab := vx_table (x := yL_set) B (hat _ List.mem_cons_self)
  have hown : s.vm.findClass RL = some m.cls := findClass_of_methodNamed B.named
  have hlocks := B.notSynchronized
  subst hsz
  have hS : va_S (fO 23 ad ou s.heap.size) s.heap s.heap [] := va_S.rf
  have hl := lv_entry ([.ref (ad 0), .int a0, .int a1, .long a2, .int a3, .ref ou]) (n := 8) (Nat.le_of_ble_eq_true rfl)
  rw [lg_entry_eq]
  generalize (lg_sl ([.ref (ad 0), .int a0, .int a1, .long a2, .int a3, .ref ou]) ++ List.replicate (8 - (lg_sl ([.ref (ad 0), .int a0, .int a1, .long a2, .int a3, .ref ou])).length) Slot.unset).toArray = ls at hl ⊢
  have hl : lv_has ls 8 [(0, .ref (ad 0)), (1, .int a0), (2, .int a1), (3, .long a2), (5, .int a3), (6, .ref ou)] := hl
  refine lv_aload hx hb dL_set_0 (lv_at hl 5 rfl) ?_
  refine lv_iconst (v := 0) hx hb dL_set_2 (by decide) ?_
  refine lv_aload_n hx hb dL_set_3 rfl (lv_at hl 0 rfl) ?_
  refine lv_iload_n hx hb dL_set_4 rfl (lv_at hl 1 rfl) ?_
  refine lv_iload_n hx hb dL_set_5 rfl (lv_at hl 2 rfl) ?_
  refine lv_lload_n hx hb dL_set_6 rfl (lv_at hl 3 rfl) ?_
  refine lv_iload hx hb dL_set_7 (lv_at hl 4 rfl) ?_
  obtain ⟨u, hu⟩ : ∃ z, z = f_X5_set a0 a1 a2 a3 Bc Bl Pk Pr Pl Pc Pm Gd Wg Wr Md := ⟨_, rfl⟩
  rw [← hu] at ho
  refine qf_X5_set hst hx hb hml hown hts mM_RL_19 ⟨Nat.le_of_ble_eq_true rfl, Nat.le_of_ble_eq_true rfl⟩ ⟨Nat.le_of_ble_eq_true rfl, Nat.le_of_ble_eq_true rfl⟩ hl.1 (Nat.le_of_ble_eq_true rfl) hS dL_set_9 (fun _ h9 => Or.inl (fA_mono hS.1 h9)) hi hK hP hC a0 a1 a2 a3 hs u hu (fun hE c1 H1 locs1 hP hS hk9 hz9 ce q9 h71 h72 h73 => ?_) (fun c1 H1 locs1 hP hS hk9 hz9 => ?_)
  · rcases ho with h | h | h | h
    · exact absurd h c1
    · rw [h] at hE
      have hE : _ = x_IAE := hE
      subst hE
      refine vx_catch (name := x_IAE) (own := RL) (E := x_IAE) hown [] ⟨0, 14, 17, 13⟩ [⟨0, 14, 21, 23⟩, ⟨0, 14, 25, 25⟩] (by rw [htab]; rfl) (fun _ h => absurd h List.not_mem_nil) (by decide) (by decide) (hts _ mC_RL_13) (hC.ca _ (by decide +kernel)) h71 h72 h73 ?_
      refine lv_astore (lv' := [(7, .ref q9), (0, .ref (ad 0)), (1, .int a0), (2, .int a1), (3, .long a2), (5, .int a3), (6, .ref ou)]) hx hb dL_set_17 hl (by decide) rfl (fun ls hl => ?_)
      refine lv_iconst (v := 1) hx hb dL_set_19 (by decide) ?_
      have hQ := ou_keep hQ hou hk9
      exact W.iret (v := 1) hx hb hr (fun t ht hW => ⟨⟨1, (), rfl, by rw [← hu, h]; rfl, ⟨by show va_P (dC, dI) vwCl _ t.heap; rw [ht]; first | exact hP | (rw [← hu]; exact hP), by rw [ht, ← hu, if_neg (by rw [h]; decide)]; exact hQ⟩⟩, hS.F ht⟩) hS.2.2 dL_set_20
    · rw [h] at hE
      have hE : _ = x_IOO := hE
      subst hE
      refine vx_catch (name := x_IOO) (own := RL) (E := x_IOO) hown [⟨0, 14, 17, 13⟩] ⟨0, 14, 21, 23⟩ [⟨0, 14, 25, 25⟩] (by rw [htab]; rfl) (List.forall_mem_cons.mpr ⟨Or.inr ⟨by decide, x_IAE, hts _ mC_RL_13, hC.nc _ _ (by decide +kernel) (by decide +kernel) (by decide +kernel)⟩, fun _ h => absurd h List.not_mem_nil⟩) (by decide) (by decide) (hts _ mC_RL_23) (hC.ca _ (by decide +kernel)) h71 h72 h73 ?_
      refine lv_astore (lv' := [(7, .ref q9), (0, .ref (ad 0)), (1, .int a0), (2, .int a1), (3, .long a2), (5, .int a3), (6, .ref ou)]) hx hb dL_set_21 hl (by decide) rfl (fun ls hl => ?_)
      refine lv_iconst (v := 2) hx hb dL_set_23 (by decide) ?_
      have hQ := ou_keep hQ hou hk9
      exact W.iret (v := 2) hx hb hr (fun t ht hW => ⟨⟨2, (), rfl, by rw [← hu, h]; rfl, ⟨by show va_P (dC, dI) vwCl _ t.heap; rw [ht]; first | exact hP | (rw [← hu]; exact hP), by rw [ht, ← hu, if_neg (by rw [h]; decide)]; exact hQ⟩⟩, hS.F ht⟩) hS.2.2 dL_set_24
    · rw [h] at hE
      have hE : _ = x_UOE := hE
      subst hE
      refine vx_catch (name := x_UOE) (own := RL) (E := x_UOE) hown [⟨0, 14, 17, 13⟩, ⟨0, 14, 21, 23⟩] ⟨0, 14, 25, 25⟩ [] (by rw [htab]; rfl) (List.forall_mem_cons.mpr ⟨Or.inr ⟨by decide, x_IAE, hts _ mC_RL_13, hC.nc _ _ (by decide +kernel) (by decide +kernel) (by decide +kernel)⟩, List.forall_mem_cons.mpr ⟨Or.inr ⟨by decide, x_IOO, hts _ mC_RL_23, hC.nc _ _ (by decide +kernel) (by decide +kernel) (by decide +kernel)⟩, fun _ h => absurd h List.not_mem_nil⟩⟩) (by decide) (by decide) (hts _ mC_RL_25) (hC.ca _ (by decide +kernel)) h71 h72 h73 ?_
      refine lv_astore (lv' := [(7, .ref q9), (0, .ref (ad 0)), (1, .int a0), (2, .int a1), (3, .long a2), (5, .int a3), (6, .ref ou)]) hx hb dL_set_25 hl (by decide) rfl (fun ls hl => ?_)
      refine lv_iconst (v := 3) hx hb dL_set_27 (by decide) ?_
      have hQ := ou_keep hQ hou hk9
      exact W.iret (v := 3) hx hb hr (fun t ht hW => ⟨⟨3, (), rfl, by rw [← hu, h]; rfl, ⟨by show va_P (dC, dI) vwCl _ t.heap; rw [ht]; first | exact hP | (rw [← hu]; exact hP), by rw [ht, ← hu, if_neg (by rw [h]; decide)]; exact hQ⟩⟩, hS.F ht⟩) hS.2.2 dL_set_28
  · have hQ := ou_keep hQ hou hk9
    refine lv_i2l hx hb dL_set_12 rfl ?_
    have hPQ : va_P (dC, dI) vwCl ((wC ad cI cJ u.2.2.1 u.2.2.2.1 u.2.2.2.2.1 u.2.2.2.2.2.1 u.2.2.2.2.2.2.1 u.2.2.2.2.2.2.2.1 u.2.2.2.2.2.2.2.2.1 Gf Gt Gx Gd Gm Ek Er Ea Ex Em Eb Et Ss Sm Wg u.2.2.2.2.2.2.2.2.2.1 u.2.2.2.2.2.2.2.2.2.2) ++ [(ou, .inl (cJ, 1, .inr (.inl Ou)))]) H1 := hP.app hQ
    refine va_last hx hb hK hPQ (ou_D hi hou rfl) hS 23 1 rfl rfl (by unfold vp_in; decide) dL_set_13 (fun H2 locs2 hPQ _ hS => ?_)
    have hPQ : va_P (dC, dI) vwCl ((wC ad cI cJ u.2.2.1 u.2.2.2.1 u.2.2.2.2.1 u.2.2.2.2.2.1 u.2.2.2.2.2.2.1 u.2.2.2.2.2.2.2.1 u.2.2.2.2.2.2.2.2.1 Gf Gt Gx Gd Gm Ek Er Ea Ex Em Eb Et Ss Sm Wg u.2.2.2.2.2.2.2.2.2.1 u.2.2.2.2.2.2.2.2.2.2) ++ [(ou, .inl (cJ, 1, .inr (.inl (vp_updL Ou (0 : Int32).toNatClampNeg u.2.1.toInt64))))]) H2 := hPQ
    have hP := hPQ.sub (ws' := (wC ad cI cJ u.2.2.1 u.2.2.2.1 u.2.2.2.2.1 u.2.2.2.2.2.1 u.2.2.2.2.2.2.1 u.2.2.2.2.2.2.2.1 u.2.2.2.2.2.2.2.2.1 Gf Gt Gx Gd Gm Ek Er Ea Ex Em Eb Et Ss Sm Wg u.2.2.2.2.2.2.2.2.2.1 u.2.2.2.2.2.2.2.2.2.2)) [0, 1, 2, 3, 4, 5, 6, 7, 8, 9, 10, 11, 12, 13, 14, 15, 16, 17, 18, 19, 20, 21, 22] rfl
    have hQ := hPQ.sub (ws' := [(ou, .inl (cJ, 1, .inr (.inl (vp_updL Ou (0 : Int32).toNatClampNeg u.2.1.toInt64))))]) [23] rfl
    refine lv_goto (tgt := 29) hx hb dL_set_14 (by decide) ?_
    refine lv_iconst (v := 0) hx hb dL_set_29 (by decide) ?_
    exact W.iret (v := 0) hx hb hr (fun t ht hW => ⟨⟨0, (), rfl, by rw [← hu, c1]; rfl, ⟨by show va_P (dC, dI) vwCl _ t.heap; rw [ht]; first | exact hP | (rw [← hu]; exact hP), by rw [ht, ← hu, if_pos c1]; exact hQ⟩⟩, hS.F ht⟩) hS.2.2 dL_set_30

def k_L_get (o : Nat) : Int32 := if o = 1 then 1 else if o = 2 then 2 else  0
set_option maxHeartbeats 4000000 in
set_option maxRecDepth 100000 in
theorem c_L_get (l : Launch) (hst : l.stackTraces = false) (dC : Nat → ClassId) (dI : Nat → Nat → Nat) (cI cJ : ClassId) (ad : Nat → Nat) (hi : fI 23 ad) (sz : Nat) (ou : Nat) (hou : ∀ k, k < 23 → ou ≠ ad k) (Ou : Nat → Int64) (Bc : Nat → Int64) (Bl : Nat → Int32) (Pk : Nat → Int32) (Pr : Nat → Int32) (Pl : Nat → Int32) (Pc : Nat → Int64) (Pm : Int32) (Gf : Nat → Int32) (Gt : Nat → Int32) (Gx : Nat → Int32) (Gd : Int32) (Gm : Int32) (Ek : Nat → Int32) (Er : Nat → Int32) (Ea : Nat → Int32) (Ex : Nat → Int32) (Em : Int32) (Eb : Int32) (Et : Int32) (Ss : Nat → Int32) (Sm : Int32) (Wg : Nat → Int64) (Wr : Nat → Int64) (Md : Nat → Int64) (a0 : Int32) (a1 : Int32) (hs : S_X5_get a0 a1 Bc) (ho : (f_X5_get a0 a1 Bc).1 = 0 ∨ (f_X5_get a0 a1 Bc).1 = 1 ∨ (f_X5_get a0 a1 Bc).1 = 2) : Met l yL_get (mWh yL_get cL_get 5 (some .int) [(0, 9, 12, 13), (0, 9, 16, 23)]) { frames := 8, cells := 2, slots := 12, locals := 135 } (va_Pc [.ref (ad 0), .int a0, .int a1, .ref ou] (fun U => U.heap.size = sz ∧ va_P (dC, dI) vwCl (wC ad cI cJ Bc Bl Pk Pr Pl Pc Pm Gf Gt Gx Gd Gm Ek Er Ea Ex Em Eb Et Ss Sm Wg Wr Md) U.heap ∧ va_K (dC, dI) vwCl [(cI, .int), (cJ, .long)] U ∧ cxt (fO 23 ad ou sz) U U.heap ∧ va_P (dC, dI) vwCl [(ou, .inl (cJ, 1, .inr (.inl Ou)))] U.heap)) (va_Qi (fun (r : Int32) (_ : Unit) => r = k_L_get ((f_X5_get a0 a1 Bc).1)) (fun _ t => va_P (dC, dI) vwCl (wC ad cI cJ Bc Bl Pk Pr Pl Pc Pm Gf Gt Gx Gd Gm Ek Er Ea Ex Em Eb Et Ss Sm Wg Wr Md) t.heap ∧ va_P (dC, dI) vwCl [(ou, .inl (cJ, 1, .inr (.inl (if (f_X5_get a0 a1 Bc).1 = 0 then vp_updL Ou (0 : Int32).toNatClampNeg ((f_X5_get a0 a1 Bc).2) else Ou))))] t.heap) (fO 23 ad ou sz)) 2 12 (fO 23 ad ou sz) := by
  refine Met.ofWH (cc := cL_get) (maxL := 5) (ret := (some .int)) (hh := [(0, 9, 12, 13), (0, 9, 16, 23)]) (by decide) rfl ?_
  intro p e s m args below meth c s₁ B hml hv
  obtain ⟨rfl, hsz, hP, hK, hC, hQ⟩ := hv
  have hx := B.exec
  have hb := B.bytes
  have hr := B.returns
  have hat := atoms_spec (ws := (mWh yL_get cL_get 5 (some .int) [(0, 9, 12, 13), (0, 9, 16, 23)])) B.pre
  have hts := mWh_hts hat
  have htab := vx_table (x := yL_get) B (hat _ List.mem_cons_self)
  have hown : s.vm.findClass RL = some m.cls := findClass_of_methodNamed B.named
  have hlocks := B.notSynchronized
  subst hsz
  have hS : va_S (fO 23 ad ou s.heap.size) s.heap s.heap [] := va_S.rf
  have hl := lv_entry ([.ref (ad 0), .int a0, .int a1, .ref ou]) (n := 5) (Nat.le_of_ble_eq_true rfl)
  rw [lg_entry_eq]
  generalize (lg_sl ([.ref (ad 0), .int a0, .int a1, .ref ou]) ++ List.replicate (5 - (lg_sl ([.ref (ad 0), .int a0, .int a1, .ref ou])).length) Slot.unset).toArray = ls at hl ⊢
  have hl : lv_has ls 5 [(0, .ref (ad 0)), (1, .int a0), (2, .int a1), (3, .ref ou)] := hl
  refine lv_aload_n hx hb dL_get_0 rfl (lv_at hl 3 rfl) ?_
  refine lv_iconst (v := 0) hx hb dL_get_1 (by decide) ?_
  refine lv_aload_n hx hb dL_get_2 rfl (lv_at hl 0 rfl) ?_
  refine lv_iload_n hx hb dL_get_3 rfl (lv_at hl 1 rfl) ?_
  refine lv_iload_n hx hb dL_get_4 rfl (lv_at hl 2 rfl) ?_
  obtain ⟨u, hu⟩ : ∃ z, z = f_X5_get a0 a1 Bc := ⟨_, rfl⟩
  rw [← hu] at ho
  refine qf_X5_get hst hx hb hml hown hts mM_RL_27 ⟨Nat.le_of_ble_eq_true rfl, Nat.le_of_ble_eq_true rfl⟩ ⟨Nat.le_of_ble_eq_true rfl, Nat.le_of_ble_eq_true rfl⟩ hl.1 (Nat.le_of_ble_eq_true rfl) hS dL_get_5 (fun _ h9 => Or.inl (fA_mono hS.1 h9)) hi hK hP hC a0 a1 hs u hu (fun hE c1 H1 locs1 hP hS hk9 hz9 ce q9 h71 h72 h73 => ?_) (fun c1 H1 locs1 hP hS hk9 hz9 => ?_)
  · rcases ho with h | h | h
    · exact absurd h c1
    · rw [h] at hE
      have hE : _ = x_IAE := hE
      subst hE
      refine vx_catch (name := x_IAE) (own := RL) (E := x_IAE) hown [] ⟨0, 9, 12, 13⟩ [⟨0, 9, 16, 23⟩] (by rw [htab]; rfl) (fun _ h => absurd h List.not_mem_nil) (by decide) (by decide) (hts _ mC_RL_13) (hC.ca _ (by decide +kernel)) h71 h72 h73 ?_
      refine lv_astore (lv' := [(4, .ref q9), (0, .ref (ad 0)), (1, .int a0), (2, .int a1), (3, .ref ou)]) hx hb dL_get_12 hl (by decide) rfl (fun ls hl => ?_)
      refine lv_iconst (v := 1) hx hb dL_get_14 (by decide) ?_
      have hQ := ou_keep hQ hou hk9
      exact W.iret (v := 1) hx hb hr (fun t ht hW => ⟨⟨1, (), rfl, by rw [← hu, h]; rfl, ⟨by show va_P (dC, dI) vwCl _ t.heap; rw [ht]; first | exact hP | (rw [← hu]; exact hP), by rw [ht, ← hu, if_neg (by rw [h]; decide)]; exact hQ⟩⟩, hS.F ht⟩) hS.2.2 dL_get_15
    · rw [h] at hE
      have hE : _ = x_IOO := hE
      subst hE
      refine vx_catch (name := x_IOO) (own := RL) (E := x_IOO) hown [⟨0, 9, 12, 13⟩] ⟨0, 9, 16, 23⟩ [] (by rw [htab]; rfl) (List.forall_mem_cons.mpr ⟨Or.inr ⟨by decide, x_IAE, hts _ mC_RL_13, hC.nc _ _ (by decide +kernel) (by decide +kernel) (by decide +kernel)⟩, fun _ h => absurd h List.not_mem_nil⟩) (by decide) (by decide) (hts _ mC_RL_23) (hC.ca _ (by decide +kernel)) h71 h72 h73 ?_
      refine lv_astore (lv' := [(4, .ref q9), (0, .ref (ad 0)), (1, .int a0), (2, .int a1), (3, .ref ou)]) hx hb dL_get_16 hl (by decide) rfl (fun ls hl => ?_)
      refine lv_iconst (v := 2) hx hb dL_get_18 (by decide) ?_
      have hQ := ou_keep hQ hou hk9
      exact W.iret (v := 2) hx hb hr (fun t ht hW => ⟨⟨2, (), rfl, by rw [← hu, h]; rfl, ⟨by show va_P (dC, dI) vwCl _ t.heap; rw [ht]; first | exact hP | (rw [← hu]; exact hP), by rw [ht, ← hu, if_neg (by rw [h]; decide)]; exact hQ⟩⟩, hS.F ht⟩) hS.2.2 dL_get_19
  · have hQ := ou_keep hQ hou hk9
    have hPQ : va_P (dC, dI) vwCl ((wC ad cI cJ Bc Bl Pk Pr Pl Pc Pm Gf Gt Gx Gd Gm Ek Er Ea Ex Em Eb Et Ss Sm Wg Wr Md) ++ [(ou, .inl (cJ, 1, .inr (.inl Ou)))]) H1 := hP.app hQ
    refine va_last hx hb hK hPQ (ou_D hi hou rfl) hS 23 1 rfl rfl (by unfold vp_in; decide) dL_get_8 (fun H2 locs2 hPQ _ hS => ?_)
    have hPQ : va_P (dC, dI) vwCl ((wC ad cI cJ Bc Bl Pk Pr Pl Pc Pm Gf Gt Gx Gd Gm Ek Er Ea Ex Em Eb Et Ss Sm Wg Wr Md) ++ [(ou, .inl (cJ, 1, .inr (.inl (vp_updL Ou (0 : Int32).toNatClampNeg u.2))))]) H2 := hPQ
    have hP := hPQ.sub (ws' := (wC ad cI cJ Bc Bl Pk Pr Pl Pc Pm Gf Gt Gx Gd Gm Ek Er Ea Ex Em Eb Et Ss Sm Wg Wr Md)) [0, 1, 2, 3, 4, 5, 6, 7, 8, 9, 10, 11, 12, 13, 14, 15, 16, 17, 18, 19, 20, 21, 22] rfl
    have hQ := hPQ.sub (ws' := [(ou, .inl (cJ, 1, .inr (.inl (vp_updL Ou (0 : Int32).toNatClampNeg u.2))))]) [23] rfl
    refine lv_goto (tgt := 20) hx hb dL_get_9 (by decide) ?_
    refine lv_iconst (v := 0) hx hb dL_get_20 (by decide) ?_
    exact W.iret (v := 0) hx hb hr (fun t ht hW => ⟨⟨0, (), rfl, by rw [← hu, c1]; rfl, ⟨by show va_P (dC, dI) vwCl _ t.heap; rw [ht]; first | exact hP | (rw [← hu]; exact hP), by rw [ht, ← hu, if_pos c1]; exact hQ⟩⟩, hS.F ht⟩) hS.2.2 dL_get_21

def k_L_part (o : Nat) : Int32 := if o = 2 then 1 else  0
set_option maxHeartbeats 4000000 in
set_option maxRecDepth 100000 in
theorem c_L_part (l : Launch) (hst : l.stackTraces = false) (dC : Nat → ClassId) (dI : Nat → Nat → Nat) (cI cJ : ClassId) (ad : Nat → Nat) (hi : fI 23 ad) (sz : Nat) (ou : Nat) (hou : ∀ k, k < 23 → ou ≠ ad k) (Ou : Nat → Int64) (Bc : Nat → Int64) (Bl : Nat → Int32) (Pk : Nat → Int32) (Pr : Nat → Int32) (Pl : Nat → Int32) (Pc : Nat → Int64) (Pm : Int32) (Gf : Nat → Int32) (Gt : Nat → Int32) (Gx : Nat → Int32) (Gd : Int32) (Gm : Int32) (Ek : Nat → Int32) (Er : Nat → Int32) (Ea : Nat → Int32) (Ex : Nat → Int32) (Em : Int32) (Eb : Int32) (Et : Int32) (Ss : Nat → Int32) (Sm : Int32) (Wg : Nat → Int64) (Wr : Nat → Int64) (Md : Nat → Int64) (a0 : Int32) (a1 : Int32) (hs : S_X5_part a0 a1 Bc) (ho : (f_X5_part a0 a1 Bc).1 = 0 ∨ (f_X5_part a0 a1 Bc).1 = 2) : Met l yL_part (mWh yL_part cL_part 5 (some .int) [(0, 9, 12, 23)]) { frames := 8, cells := 2, slots := 12, locals := 135 } (va_Pc [.ref (ad 0), .int a0, .int a1, .ref ou] (fun U => U.heap.size = sz ∧ va_P (dC, dI) vwCl (wC ad cI cJ Bc Bl Pk Pr Pl Pc Pm Gf Gt Gx Gd Gm Ek Er Ea Ex Em Eb Et Ss Sm Wg Wr Md) U.heap ∧ va_K (dC, dI) vwCl [(cI, .int), (cJ, .long)] U ∧ cxt (fO 23 ad ou sz) U U.heap ∧ va_P (dC, dI) vwCl [(ou, .inl (cJ, 1, .inr (.inl Ou)))] U.heap)) (va_Qi (fun (r : Int32) (_ : Unit) => r = k_L_part ((f_X5_part a0 a1 Bc).1)) (fun _ t => va_P (dC, dI) vwCl (wC ad cI cJ Bc Bl Pk Pr Pl Pc Pm Gf Gt Gx Gd Gm Ek Er Ea Ex Em Eb Et Ss Sm Wg Wr Md) t.heap ∧ va_P (dC, dI) vwCl [(ou, .inl (cJ, 1, .inr (.inl (if (f_X5_part a0 a1 Bc).1 = 0 then vp_updL Ou (0 : Int32).toNatClampNeg ((f_X5_part a0 a1 Bc).2) else Ou))))] t.heap) (fO 23 ad ou sz)) 2 12 (fO 23 ad ou sz) := by
  refine Met.ofWH (cc := cL_part) (maxL := 5) (ret := (some .int)) (hh := [(0, 9, 12, 23)]) (by decide) rfl ?_
  intro p e s m args below meth c s₁ B hml hv
  obtain ⟨rfl, hsz, hP, hK, hC, hQ⟩ := hv
  have hx := B.exec
  have hb := B.bytes
  have hr := B.returns
  have hat := atoms_spec (ws := (mWh yL_part cL_part 5 (some .int) [(0, 9, 12, 23)])) B.pre
  have hts := mWh_hts hat
  have htab := vx_table (x := yL_part) B (hat _ List.mem_cons_self)
  have hown : s.vm.findClass RL = some m.cls := findClass_of_methodNamed B.named
  have hlocks := B.notSynchronized
  subst hsz
  have hS : va_S (fO 23 ad ou s.heap.size) s.heap s.heap [] := va_S.rf
  have hl := lv_entry ([.ref (ad 0), .int a0, .int a1, .ref ou]) (n := 5) (Nat.le_of_ble_eq_true rfl)
  rw [lg_entry_eq]
  generalize (lg_sl ([.ref (ad 0), .int a0, .int a1, .ref ou]) ++ List.replicate (5 - (lg_sl ([.ref (ad 0), .int a0, .int a1, .ref ou])).length) Slot.unset).toArray = ls at hl ⊢
  have hl : lv_has ls 5 [(0, .ref (ad 0)), (1, .int a0), (2, .int a1), (3, .ref ou)] := hl
  refine lv_aload_n hx hb dL_part_0 rfl (lv_at hl 3 rfl) ?_
  refine lv_iconst (v := 0) hx hb dL_part_1 (by decide) ?_
  refine lv_aload_n hx hb dL_part_2 rfl (lv_at hl 0 rfl) ?_
  refine lv_iload_n hx hb dL_part_3 rfl (lv_at hl 1 rfl) ?_
  refine lv_iload_n hx hb dL_part_4 rfl (lv_at hl 2 rfl) ?_
  obtain ⟨u, hu⟩ : ∃ z, z = f_X5_part a0 a1 Bc := ⟨_, rfl⟩
  rw [← hu] at ho
  refine qf_X5_part hst hx hb hml hown hts mM_RL_31 ⟨Nat.le_of_ble_eq_true rfl, Nat.le_of_ble_eq_true rfl⟩ ⟨Nat.le_of_ble_eq_true rfl, Nat.le_of_ble_eq_true rfl⟩ hl.1 (Nat.le_of_ble_eq_true rfl) hS dL_part_5 (fun _ h9 => Or.inl (fA_mono hS.1 h9)) hi hK hP hC a0 a1 hs u hu (fun hE c1 H1 locs1 hP hS hk9 hz9 ce q9 h71 h72 h73 => ?_) (fun c1 H1 locs1 hP hS hk9 hz9 => ?_)
  · rcases ho with h | h
    · exact absurd h c1
    · rw [h] at hE
      have hE : _ = x_IOO := hE
      subst hE
      refine vx_catch (name := x_IOO) (own := RL) (E := x_IOO) hown [] ⟨0, 9, 12, 23⟩ [] (by rw [htab]; rfl) (fun _ h => absurd h List.not_mem_nil) (by decide) (by decide) (hts _ mC_RL_23) (hC.ca _ (by decide +kernel)) h71 h72 h73 ?_
      refine lv_astore (lv' := [(4, .ref q9), (0, .ref (ad 0)), (1, .int a0), (2, .int a1), (3, .ref ou)]) hx hb dL_part_12 hl (by decide) rfl (fun ls hl => ?_)
      refine lv_iconst (v := 1) hx hb dL_part_14 (by decide) ?_
      have hQ := ou_keep hQ hou hk9
      exact W.iret (v := 1) hx hb hr (fun t ht hW => ⟨⟨1, (), rfl, by rw [← hu, h]; rfl, ⟨by show va_P (dC, dI) vwCl _ t.heap; rw [ht]; first | exact hP | (rw [← hu]; exact hP), by rw [ht, ← hu, if_neg (by rw [h]; decide)]; exact hQ⟩⟩, hS.F ht⟩) hS.2.2 dL_part_15
  · have hQ := ou_keep hQ hou hk9
    have hPQ : va_P (dC, dI) vwCl ((wC ad cI cJ Bc Bl Pk Pr Pl Pc Pm Gf Gt Gx Gd Gm Ek Er Ea Ex Em Eb Et Ss Sm Wg Wr Md) ++ [(ou, .inl (cJ, 1, .inr (.inl Ou)))]) H1 := hP.app hQ
    refine va_last hx hb hK hPQ (ou_D hi hou rfl) hS 23 1 rfl rfl (by unfold vp_in; decide) dL_part_8 (fun H2 locs2 hPQ _ hS => ?_)
    have hPQ : va_P (dC, dI) vwCl ((wC ad cI cJ Bc Bl Pk Pr Pl Pc Pm Gf Gt Gx Gd Gm Ek Er Ea Ex Em Eb Et Ss Sm Wg Wr Md) ++ [(ou, .inl (cJ, 1, .inr (.inl (vp_updL Ou (0 : Int32).toNatClampNeg u.2))))]) H2 := hPQ
    have hP := hPQ.sub (ws' := (wC ad cI cJ Bc Bl Pk Pr Pl Pc Pm Gf Gt Gx Gd Gm Ek Er Ea Ex Em Eb Et Ss Sm Wg Wr Md)) [0, 1, 2, 3, 4, 5, 6, 7, 8, 9, 10, 11, 12, 13, 14, 15, 16, 17, 18, 19, 20, 21, 22] rfl
    have hQ := hPQ.sub (ws' := [(ou, .inl (cJ, 1, .inr (.inl (vp_updL Ou (0 : Int32).toNatClampNeg u.2))))]) [23] rfl
    refine lv_goto (tgt := 16) hx hb dL_part_9 (by decide) ?_
    refine lv_iconst (v := 0) hx hb dL_part_16 (by decide) ?_
    exact W.iret (v := 0) hx hb hr (fun t ht hW => ⟨⟨0, (), rfl, by rw [← hu, c1]; rfl, ⟨by show va_P (dC, dI) vwCl _ t.heap; rw [ht]; first | exact hP | (rw [← hu]; exact hP), by rw [ht, ← hu, if_pos c1]; exact hQ⟩⟩, hS.F ht⟩) hS.2.2 dL_part_17

def k_L_at (o : Nat) : Int32 := if o = 2 then 1 else  0
set_option maxHeartbeats 4000000 in
set_option maxRecDepth 100000 in
theorem c_L_at (l : Launch) (hst : l.stackTraces = false) (dC : Nat → ClassId) (dI : Nat → Nat → Nat) (cI cJ : ClassId) (ad : Nat → Nat) (hi : fI 23 ad) (sz : Nat) (ou : Nat) (hou : ∀ k, k < 23 → ou ≠ ad k) (Ou : Nat → Int64) (Bc : Nat → Int64) (Bl : Nat → Int32) (Pk : Nat → Int32) (Pr : Nat → Int32) (Pl : Nat → Int32) (Pc : Nat → Int64) (Pm : Int32) (Gf : Nat → Int32) (Gt : Nat → Int32) (Gx : Nat → Int32) (Gd : Int32) (Gm : Int32) (Ek : Nat → Int32) (Er : Nat → Int32) (Ea : Nat → Int32) (Ex : Nat → Int32) (Em : Int32) (Eb : Int32) (Et : Int32) (Ss : Nat → Int32) (Sm : Int32) (Wg : Nat → Int64) (Wr : Nat → Int64) (Md : Nat → Int64) (a0 : Int32) (a1 : Int32) (hs : S_X5_at a0 a1 Bc) (ho : (f_X5_at a0 a1 Bc).1 = 0 ∨ (f_X5_at a0 a1 Bc).1 = 2) : Met l yL_at (mWh yL_at cL_at 5 (some .int) [(0, 10, 13, 23)]) { frames := 8, cells := 2, slots := 12, locals := 136 } (va_Pc [.ref (ad 0), .int a0, .int a1, .ref ou] (fun U => U.heap.size = sz ∧ va_P (dC, dI) vwCl (wC ad cI cJ Bc Bl Pk Pr Pl Pc Pm Gf Gt Gx Gd Gm Ek Er Ea Ex Em Eb Et Ss Sm Wg Wr Md) U.heap ∧ va_K (dC, dI) vwCl [(cI, .int), (cJ, .long)] U ∧ cxt (fO 23 ad ou sz) U U.heap ∧ va_P (dC, dI) vwCl [(ou, .inl (cJ, 1, .inr (.inl Ou)))] U.heap)) (va_Qi (fun (r : Int32) (_ : Unit) => r = k_L_at ((f_X5_at a0 a1 Bc).1)) (fun _ t => va_P (dC, dI) vwCl (wC ad cI cJ Bc Bl Pk Pr Pl Pc Pm Gf Gt Gx Gd Gm Ek Er Ea Ex Em Eb Et Ss Sm Wg Wr Md) t.heap ∧ va_P (dC, dI) vwCl [(ou, .inl (cJ, 1, .inr (.inl (if (f_X5_at a0 a1 Bc).1 = 0 then vp_updL Ou (0 : Int32).toNatClampNeg ((f_X5_at a0 a1 Bc).2.toInt64) else Ou))))] t.heap) (fO 23 ad ou sz)) 2 12 (fO 23 ad ou sz) := by
  refine Met.ofWH (cc := cL_at) (maxL := 5) (ret := (some .int)) (hh := [(0, 10, 13, 23)]) (by decide) rfl ?_
  intro p e s m args below meth c s₁ B hml hv
  obtain ⟨rfl, hsz, hP, hK, hC, hQ⟩ := hv
  have hx := B.exec
  have hb := B.bytes
  have hr := B.returns
  have hat := atoms_spec (ws := (mWh yL_at cL_at 5 (some .int) [(0, 10, 13, 23)])) B.pre
  have hts := mWh_hts hat
  have htab := vx_table (x := yL_at) B (hat _ List.mem_cons_self)
  have hown : s.vm.findClass RL = some m.cls := findClass_of_methodNamed B.named
  have hlocks := B.notSynchronized
  subst hsz
  have hS : va_S (fO 23 ad ou s.heap.size) s.heap s.heap [] := va_S.rf
  have hl := lv_entry ([.ref (ad 0), .int a0, .int a1, .ref ou]) (n := 5) (Nat.le_of_ble_eq_true rfl)
  rw [lg_entry_eq]
  generalize (lg_sl ([.ref (ad 0), .int a0, .int a1, .ref ou]) ++ List.replicate (5 - (lg_sl ([.ref (ad 0), .int a0, .int a1, .ref ou])).length) Slot.unset).toArray = ls at hl ⊢
  have hl : lv_has ls 5 [(0, .ref (ad 0)), (1, .int a0), (2, .int a1), (3, .ref ou)] := hl
  refine lv_aload_n hx hb dL_at_0 rfl (lv_at hl 3 rfl) ?_
  refine lv_iconst (v := 0) hx hb dL_at_1 (by decide) ?_
  refine lv_aload_n hx hb dL_at_2 rfl (lv_at hl 0 rfl) ?_
  refine lv_iload_n hx hb dL_at_3 rfl (lv_at hl 1 rfl) ?_
  refine lv_iload_n hx hb dL_at_4 rfl (lv_at hl 2 rfl) ?_
  obtain ⟨u, hu⟩ : ∃ z, z = f_X5_at a0 a1 Bc := ⟨_, rfl⟩
  rw [← hu] at ho
  refine qf_X5_at hst hx hb hml hown hts mM_RL_34 ⟨Nat.le_of_ble_eq_true rfl, Nat.le_of_ble_eq_true rfl⟩ ⟨Nat.le_of_ble_eq_true rfl, Nat.le_of_ble_eq_true rfl⟩ hl.1 (Nat.le_of_ble_eq_true rfl) hS dL_at_5 (fun _ h9 => Or.inl (fA_mono hS.1 h9)) hi hK hP hC a0 a1 hs u hu (fun hE c1 H1 locs1 hP hS hk9 hz9 ce q9 h71 h72 h73 => ?_) (fun c1 H1 locs1 hP hS hk9 hz9 => ?_)
  · rcases ho with h | h
    · exact absurd h c1
    · rw [h] at hE
      have hE : _ = x_IOO := hE
      subst hE
      refine vx_catch (name := x_IOO) (own := RL) (E := x_IOO) hown [] ⟨0, 10, 13, 23⟩ [] (by rw [htab]; rfl) (fun _ h => absurd h List.not_mem_nil) (by decide) (by decide) (hts _ mC_RL_23) (hC.ca _ (by decide +kernel)) h71 h72 h73 ?_
      refine lv_astore (lv' := [(4, .ref q9), (0, .ref (ad 0)), (1, .int a0), (2, .int a1), (3, .ref ou)]) hx hb dL_at_13 hl (by decide) rfl (fun ls hl => ?_)
      refine lv_iconst (v := 1) hx hb dL_at_15 (by decide) ?_
      have hQ := ou_keep hQ hou hk9
      exact W.iret (v := 1) hx hb hr (fun t ht hW => ⟨⟨1, (), rfl, by rw [← hu, h]; rfl, ⟨by show va_P (dC, dI) vwCl _ t.heap; rw [ht]; first | exact hP | (rw [← hu]; exact hP), by rw [ht, ← hu, if_neg (by rw [h]; decide)]; exact hQ⟩⟩, hS.F ht⟩) hS.2.2 dL_at_16
  · have hQ := ou_keep hQ hou hk9
    refine lv_i2l hx hb dL_at_8 rfl ?_
    have hPQ : va_P (dC, dI) vwCl ((wC ad cI cJ Bc Bl Pk Pr Pl Pc Pm Gf Gt Gx Gd Gm Ek Er Ea Ex Em Eb Et Ss Sm Wg Wr Md) ++ [(ou, .inl (cJ, 1, .inr (.inl Ou)))]) H1 := hP.app hQ
    refine va_last hx hb hK hPQ (ou_D hi hou rfl) hS 23 1 rfl rfl (by unfold vp_in; decide) dL_at_9 (fun H2 locs2 hPQ _ hS => ?_)
    have hPQ : va_P (dC, dI) vwCl ((wC ad cI cJ Bc Bl Pk Pr Pl Pc Pm Gf Gt Gx Gd Gm Ek Er Ea Ex Em Eb Et Ss Sm Wg Wr Md) ++ [(ou, .inl (cJ, 1, .inr (.inl (vp_updL Ou (0 : Int32).toNatClampNeg u.2.toInt64))))]) H2 := hPQ
    have hP := hPQ.sub (ws' := (wC ad cI cJ Bc Bl Pk Pr Pl Pc Pm Gf Gt Gx Gd Gm Ek Er Ea Ex Em Eb Et Ss Sm Wg Wr Md)) [0, 1, 2, 3, 4, 5, 6, 7, 8, 9, 10, 11, 12, 13, 14, 15, 16, 17, 18, 19, 20, 21, 22] rfl
    have hQ := hPQ.sub (ws' := [(ou, .inl (cJ, 1, .inr (.inl (vp_updL Ou (0 : Int32).toNatClampNeg u.2.toInt64))))]) [23] rfl
    refine lv_goto (tgt := 17) hx hb dL_at_10 (by decide) ?_
    refine lv_iconst (v := 0) hx hb dL_at_17 (by decide) ?_
    exact W.iret (v := 0) hx hb hr (fun t ht hW => ⟨⟨0, (), rfl, by rw [← hu, c1]; rfl, ⟨by show va_P (dC, dI) vwCl _ t.heap; rw [ht]; first | exact hP | (rw [← hu]; exact hP), by rw [ht, ← hu, if_pos c1]; exact hQ⟩⟩, hS.F ht⟩) hS.2.2 dL_at_18

def k_L_add (o : Nat) : Int32 := if o = 1 then 1 else if o = 2 then 2 else if o = 3 then 3 else  0
set_option maxHeartbeats 4000000 in
set_option maxRecDepth 100000 in
theorem c_L_add (l : Launch) (hst : l.stackTraces = false) (dC : Nat → ClassId) (dI : Nat → Nat → Nat) (cI cJ : ClassId) (ad : Nat → Nat) (hi : fI 23 ad) (sz : Nat) (ou : Nat) (hou : ∀ k, k < 23 → ou ≠ ad k) (Ou : Nat → Int64) (Bc : Nat → Int64) (Bl : Nat → Int32) (Pk : Nat → Int32) (Pr : Nat → Int32) (Pl : Nat → Int32) (Pc : Nat → Int64) (Pm : Int32) (Gf : Nat → Int32) (Gt : Nat → Int32) (Gx : Nat → Int32) (Gd : Int32) (Gm : Int32) (Ek : Nat → Int32) (Er : Nat → Int32) (Ea : Nat → Int32) (Ex : Nat → Int32) (Em : Int32) (Eb : Int32) (Et : Int32) (Ss : Nat → Int32) (Sm : Int32) (Wg : Nat → Int64) (Wr : Nat → Int64) (Md : Nat → Int64) (a0 : Int32) (a1 : Int32) (a2 : Int64) (a3 : Int32) (hs : S_X5_add a0 a1 a2 a3 Bc Bl Pk Pr Pl Pc Pm Gd Md) (ho : (f_X5_add a0 a1 a2 a3 Bc Bl Pk Pr Pl Pc Pm Gd Md).1 = 0 ∨ (f_X5_add a0 a1 a2 a3 Bc Bl Pk Pr Pl Pc Pm Gd Md).1 = 1 ∨ (f_X5_add a0 a1 a2 a3 Bc Bl Pk Pr Pl Pc Pm Gd Md).1 = 2 ∨ (f_X5_add a0 a1 a2 a3 Bc Bl Pk Pr Pl Pc Pm Gd Md).1 = 3) : Met l yL_add (mWh yL_add cL_add 8 (some .int) [(0, 14, 17, 13), (0, 14, 21, 23), (0, 14, 25, 25)]) { frames := 8, cells := 4, slots := 24, locals := 141 } (va_Pc [.ref (ad 0), .int a0, .int a1, .long a2, .int a3, .ref ou] (fun U => U.heap.size = sz ∧ va_P (dC, dI) vwCl (wC ad cI cJ Bc Bl Pk Pr Pl Pc Pm Gf Gt Gx Gd Gm Ek Er Ea Ex Em Eb Et Ss Sm Wg Wr Md) U.heap ∧ va_K (dC, dI) vwCl [(cI, .int), (cJ, .long)] U ∧ cxt (fO 23 ad ou sz) U U.heap ∧ va_P (dC, dI) vwCl [(ou, .inl (cJ, 1, .inr (.inl Ou)))] U.heap)) (va_Qi (fun (r : Int32) (_ : Unit) => r = k_L_add ((f_X5_add a0 a1 a2 a3 Bc Bl Pk Pr Pl Pc Pm Gd Md).1)) (fun _ t => va_P (dC, dI) vwCl (wC ad cI cJ ((f_X5_add a0 a1 a2 a3 Bc Bl Pk Pr Pl Pc Pm Gd Md).2.2.1) ((f_X5_add a0 a1 a2 a3 Bc Bl Pk Pr Pl Pc Pm Gd Md).2.2.2.1) ((f_X5_add a0 a1 a2 a3 Bc Bl Pk Pr Pl Pc Pm Gd Md).2.2.2.2.1) ((f_X5_add a0 a1 a2 a3 Bc Bl Pk Pr Pl Pc Pm Gd Md).2.2.2.2.2.1) ((f_X5_add a0 a1 a2 a3 Bc Bl Pk Pr Pl Pc Pm Gd Md).2.2.2.2.2.2.1) ((f_X5_add a0 a1 a2 a3 Bc Bl Pk Pr Pl Pc Pm Gd Md).2.2.2.2.2.2.2.1) ((f_X5_add a0 a1 a2 a3 Bc Bl Pk Pr Pl Pc Pm Gd Md).2.2.2.2.2.2.2.2.1) Gf Gt Gx Gd Gm Ek Er Ea Ex Em Eb Et Ss Sm Wg Wr ((f_X5_add a0 a1 a2 a3 Bc Bl Pk Pr Pl Pc Pm Gd Md).2.2.2.2.2.2.2.2.2)) t.heap ∧ va_P (dC, dI) vwCl [(ou, .inl (cJ, 1, .inr (.inl (if (f_X5_add a0 a1 a2 a3 Bc Bl Pk Pr Pl Pc Pm Gd Md).1 = 0 then vp_updL Ou (0 : Int32).toNatClampNeg ((f_X5_add a0 a1 a2 a3 Bc Bl Pk Pr Pl Pc Pm Gd Md).2.1.toInt64) else Ou))))] t.heap) (fO 23 ad ou sz)) 4 24 (fO 23 ad ou sz) := by
  refine Met.ofWH (cc := cL_add) (maxL := 8) (ret := (some .int)) (hh := [(0, 14, 17, 13), (0, 14, 21, 23), (0, 14, 25, 25)]) (by decide) rfl ?_
  intro p e s m args below meth c s₁ B hml hv
  obtain ⟨rfl, hsz, hP, hK, hC, hQ⟩ := hv
  have hx := B.exec
  have hb := B.bytes
  have hr := B.returns
  have hat := atoms_spec (ws := (mWh yL_add cL_add 8 (some .int) [(0, 14, 17, 13), (0, 14, 21, 23), (0, 14, 25, 25)])) B.pre
  have hts := mWh_hts hat
  have htab := vx_table (x := yL_add) B (hat _ List.mem_cons_self)
  have hown : s.vm.findClass RL = some m.cls := findClass_of_methodNamed B.named
  have hlocks := B.notSynchronized
  subst hsz
  have hS : va_S (fO 23 ad ou s.heap.size) s.heap s.heap [] := va_S.rf
  have hl := lv_entry ([.ref (ad 0), .int a0, .int a1, .long a2, .int a3, .ref ou]) (n := 8) (Nat.le_of_ble_eq_true rfl)
  rw [lg_entry_eq]
  generalize (lg_sl ([.ref (ad 0), .int a0, .int a1, .long a2, .int a3, .ref ou]) ++ List.replicate (8 - (lg_sl ([.ref (ad 0), .int a0, .int a1, .long a2, .int a3, .ref ou])).length) Slot.unset).toArray = ls at hl ⊢
  have hl : lv_has ls 8 [(0, .ref (ad 0)), (1, .int a0), (2, .int a1), (3, .long a2), (5, .int a3), (6, .ref ou)] := hl
  refine lv_aload hx hb dL_add_0 (lv_at hl 5 rfl) ?_
  refine lv_iconst (v := 0) hx hb dL_add_2 (by decide) ?_
  refine lv_aload_n hx hb dL_add_3 rfl (lv_at hl 0 rfl) ?_
  refine lv_iload_n hx hb dL_add_4 rfl (lv_at hl 1 rfl) ?_
  refine lv_iload_n hx hb dL_add_5 rfl (lv_at hl 2 rfl) ?_
  refine lv_lload_n hx hb dL_add_6 rfl (lv_at hl 3 rfl) ?_
  refine lv_iload hx hb dL_add_7 (lv_at hl 4 rfl) ?_
  obtain ⟨u, hu⟩ : ∃ z, z = f_X5_add a0 a1 a2 a3 Bc Bl Pk Pr Pl Pc Pm Gd Md := ⟨_, rfl⟩
  rw [← hu] at ho
  refine qf_X5_add hst hx hb hml hown hts mM_RL_38 ⟨Nat.le_of_ble_eq_true rfl, Nat.le_of_ble_eq_true rfl⟩ ⟨Nat.le_of_ble_eq_true rfl, Nat.le_of_ble_eq_true rfl⟩ hl.1 (Nat.le_of_ble_eq_true rfl) hS dL_add_9 (fun _ h9 => Or.inl (fA_mono hS.1 h9)) hi hK hP hC a0 a1 a2 a3 hs u hu (fun hE c1 H1 locs1 hP hS hk9 hz9 ce q9 h71 h72 h73 => ?_) (fun c1 H1 locs1 hP hS hk9 hz9 => ?_)
  · rcases ho with h | h | h | h
    · exact absurd h c1
    · rw [h] at hE
      have hE : _ = x_IAE := hE
      subst hE
      refine vx_catch (name := x_IAE) (own := RL) (E := x_IAE) hown [] ⟨0, 14, 17, 13⟩ [⟨0, 14, 21, 23⟩, ⟨0, 14, 25, 25⟩] (by rw [htab]; rfl) (fun _ h => absurd h List.not_mem_nil) (by decide) (by decide) (hts _ mC_RL_13) (hC.ca _ (by decide +kernel)) h71 h72 h73 ?_
      refine lv_astore (lv' := [(7, .ref q9), (0, .ref (ad 0)), (1, .int a0), (2, .int a1), (3, .long a2), (5, .int a3), (6, .ref ou)]) hx hb dL_add_17 hl (by decide) rfl (fun ls hl => ?_)
      refine lv_iconst (v := 1) hx hb dL_add_19 (by decide) ?_
      have hQ := ou_keep hQ hou hk9
      exact W.iret (v := 1) hx hb hr (fun t ht hW => ⟨⟨1, (), rfl, by rw [← hu, h]; rfl, ⟨by show va_P (dC, dI) vwCl _ t.heap; rw [ht]; first | exact hP | (rw [← hu]; exact hP), by rw [ht, ← hu, if_neg (by rw [h]; decide)]; exact hQ⟩⟩, hS.F ht⟩) hS.2.2 dL_add_20
    · rw [h] at hE
      have hE : _ = x_IOO := hE
      subst hE
      refine vx_catch (name := x_IOO) (own := RL) (E := x_IOO) hown [⟨0, 14, 17, 13⟩] ⟨0, 14, 21, 23⟩ [⟨0, 14, 25, 25⟩] (by rw [htab]; rfl) (List.forall_mem_cons.mpr ⟨Or.inr ⟨by decide, x_IAE, hts _ mC_RL_13, hC.nc _ _ (by decide +kernel) (by decide +kernel) (by decide +kernel)⟩, fun _ h => absurd h List.not_mem_nil⟩) (by decide) (by decide) (hts _ mC_RL_23) (hC.ca _ (by decide +kernel)) h71 h72 h73 ?_
      refine lv_astore (lv' := [(7, .ref q9), (0, .ref (ad 0)), (1, .int a0), (2, .int a1), (3, .long a2), (5, .int a3), (6, .ref ou)]) hx hb dL_add_21 hl (by decide) rfl (fun ls hl => ?_)
      refine lv_iconst (v := 2) hx hb dL_add_23 (by decide) ?_
      have hQ := ou_keep hQ hou hk9
      exact W.iret (v := 2) hx hb hr (fun t ht hW => ⟨⟨2, (), rfl, by rw [← hu, h]; rfl, ⟨by show va_P (dC, dI) vwCl _ t.heap; rw [ht]; first | exact hP | (rw [← hu]; exact hP), by rw [ht, ← hu, if_neg (by rw [h]; decide)]; exact hQ⟩⟩, hS.F ht⟩) hS.2.2 dL_add_24
    · rw [h] at hE
      have hE : _ = x_UOE := hE
      subst hE
      refine vx_catch (name := x_UOE) (own := RL) (E := x_UOE) hown [⟨0, 14, 17, 13⟩, ⟨0, 14, 21, 23⟩] ⟨0, 14, 25, 25⟩ [] (by rw [htab]; rfl) (List.forall_mem_cons.mpr ⟨Or.inr ⟨by decide, x_IAE, hts _ mC_RL_13, hC.nc _ _ (by decide +kernel) (by decide +kernel) (by decide +kernel)⟩, List.forall_mem_cons.mpr ⟨Or.inr ⟨by decide, x_IOO, hts _ mC_RL_23, hC.nc _ _ (by decide +kernel) (by decide +kernel) (by decide +kernel)⟩, fun _ h => absurd h List.not_mem_nil⟩⟩) (by decide) (by decide) (hts _ mC_RL_25) (hC.ca _ (by decide +kernel)) h71 h72 h73 ?_
      refine lv_astore (lv' := [(7, .ref q9), (0, .ref (ad 0)), (1, .int a0), (2, .int a1), (3, .long a2), (5, .int a3), (6, .ref ou)]) hx hb dL_add_25 hl (by decide) rfl (fun ls hl => ?_)
      refine lv_iconst (v := 3) hx hb dL_add_27 (by decide) ?_
      have hQ := ou_keep hQ hou hk9
      exact W.iret (v := 3) hx hb hr (fun t ht hW => ⟨⟨3, (), rfl, by rw [← hu, h]; rfl, ⟨by show va_P (dC, dI) vwCl _ t.heap; rw [ht]; first | exact hP | (rw [← hu]; exact hP), by rw [ht, ← hu, if_neg (by rw [h]; decide)]; exact hQ⟩⟩, hS.F ht⟩) hS.2.2 dL_add_28
  · have hQ := ou_keep hQ hou hk9
    refine lv_i2l hx hb dL_add_12 rfl ?_
    have hPQ : va_P (dC, dI) vwCl ((wC ad cI cJ u.2.2.1 u.2.2.2.1 u.2.2.2.2.1 u.2.2.2.2.2.1 u.2.2.2.2.2.2.1 u.2.2.2.2.2.2.2.1 u.2.2.2.2.2.2.2.2.1 Gf Gt Gx Gd Gm Ek Er Ea Ex Em Eb Et Ss Sm Wg Wr u.2.2.2.2.2.2.2.2.2) ++ [(ou, .inl (cJ, 1, .inr (.inl Ou)))]) H1 := hP.app hQ
    refine va_last hx hb hK hPQ (ou_D hi hou rfl) hS 23 1 rfl rfl (by unfold vp_in; decide) dL_add_13 (fun H2 locs2 hPQ _ hS => ?_)
    have hPQ : va_P (dC, dI) vwCl ((wC ad cI cJ u.2.2.1 u.2.2.2.1 u.2.2.2.2.1 u.2.2.2.2.2.1 u.2.2.2.2.2.2.1 u.2.2.2.2.2.2.2.1 u.2.2.2.2.2.2.2.2.1 Gf Gt Gx Gd Gm Ek Er Ea Ex Em Eb Et Ss Sm Wg Wr u.2.2.2.2.2.2.2.2.2) ++ [(ou, .inl (cJ, 1, .inr (.inl (vp_updL Ou (0 : Int32).toNatClampNeg u.2.1.toInt64))))]) H2 := hPQ
    have hP := hPQ.sub (ws' := (wC ad cI cJ u.2.2.1 u.2.2.2.1 u.2.2.2.2.1 u.2.2.2.2.2.1 u.2.2.2.2.2.2.1 u.2.2.2.2.2.2.2.1 u.2.2.2.2.2.2.2.2.1 Gf Gt Gx Gd Gm Ek Er Ea Ex Em Eb Et Ss Sm Wg Wr u.2.2.2.2.2.2.2.2.2)) [0, 1, 2, 3, 4, 5, 6, 7, 8, 9, 10, 11, 12, 13, 14, 15, 16, 17, 18, 19, 20, 21, 22] rfl
    have hQ := hPQ.sub (ws' := [(ou, .inl (cJ, 1, .inr (.inl (vp_updL Ou (0 : Int32).toNatClampNeg u.2.1.toInt64))))]) [23] rfl
    refine lv_goto (tgt := 29) hx hb dL_add_14 (by decide) ?_
    refine lv_iconst (v := 0) hx hb dL_add_29 (by decide) ?_
    exact W.iret (v := 0) hx hb hr (fun t ht hW => ⟨⟨0, (), rfl, by rw [← hu, c1]; rfl, ⟨by show va_P (dC, dI) vwCl _ t.heap; rw [ht]; first | exact hP | (rw [← hu]; exact hP), by rw [ht, ← hu, if_pos c1]; exact hQ⟩⟩, hS.F ht⟩) hS.2.2 dL_add_30

def k_L_multiply (o : Nat) : Int32 := if o = 1 then 1 else if o = 2 then 2 else if o = 3 then 3 else  0
set_option maxHeartbeats 4000000 in
set_option maxRecDepth 100000 in
theorem c_L_multiply (l : Launch) (hst : l.stackTraces = false) (dC : Nat → ClassId) (dI : Nat → Nat → Nat) (cI cJ : ClassId) (ad : Nat → Nat) (hi : fI 23 ad) (sz : Nat) (ou : Nat) (hou : ∀ k, k < 23 → ou ≠ ad k) (Ou : Nat → Int64) (Bc : Nat → Int64) (Bl : Nat → Int32) (Pk : Nat → Int32) (Pr : Nat → Int32) (Pl : Nat → Int32) (Pc : Nat → Int64) (Pm : Int32) (Gf : Nat → Int32) (Gt : Nat → Int32) (Gx : Nat → Int32) (Gd : Int32) (Gm : Int32) (Ek : Nat → Int32) (Er : Nat → Int32) (Ea : Nat → Int32) (Ex : Nat → Int32) (Em : Int32) (Eb : Int32) (Et : Int32) (Ss : Nat → Int32) (Sm : Int32) (Wg : Nat → Int64) (Wr : Nat → Int64) (Md : Nat → Int64) (a0 : Int32) (a1 : Int32) (a2 : Int64) (a3 : Int32) (hs : S_X5_multiply a0 a1 a2 a3 Bc Bl Pk Pr Pl Pc Pm Gd Md) (ho : (f_X5_multiply a0 a1 a2 a3 Bc Bl Pk Pr Pl Pc Pm Gd Md).1 = 0 ∨ (f_X5_multiply a0 a1 a2 a3 Bc Bl Pk Pr Pl Pc Pm Gd Md).1 = 1 ∨ (f_X5_multiply a0 a1 a2 a3 Bc Bl Pk Pr Pl Pc Pm Gd Md).1 = 2 ∨ (f_X5_multiply a0 a1 a2 a3 Bc Bl Pk Pr Pl Pc Pm Gd Md).1 = 3) : Met l yL_multiply (mWh yL_multiply cL_multiply 8 (some .int) [(0, 14, 17, 13), (0, 14, 21, 23), (0, 14, 25, 25)]) { frames := 8, cells := 3, slots := 18, locals := 141 } (va_Pc [.ref (ad 0), .int a0, .int a1, .long a2, .int a3, .ref ou] (fun U => U.heap.size = sz ∧ va_P (dC, dI) vwCl (wC ad cI cJ Bc Bl Pk Pr Pl Pc Pm Gf Gt Gx Gd Gm Ek Er Ea Ex Em Eb Et Ss Sm Wg Wr Md) U.heap ∧ va_K (dC, dI) vwCl [(cI, .int), (cJ, .long)] U ∧ cxt (fO 23 ad ou sz) U U.heap ∧ va_P (dC, dI) vwCl [(ou, .inl (cJ, 1, .inr (.inl Ou)))] U.heap)) (va_Qi (fun (r : Int32) (_ : Unit) => r = k_L_multiply ((f_X5_multiply a0 a1 a2 a3 Bc Bl Pk Pr Pl Pc Pm Gd Md).1)) (fun _ t => va_P (dC, dI) vwCl (wC ad cI cJ ((f_X5_multiply a0 a1 a2 a3 Bc Bl Pk Pr Pl Pc Pm Gd Md).2.2.1) ((f_X5_multiply a0 a1 a2 a3 Bc Bl Pk Pr Pl Pc Pm Gd Md).2.2.2.1) ((f_X5_multiply a0 a1 a2 a3 Bc Bl Pk Pr Pl Pc Pm Gd Md).2.2.2.2.1) ((f_X5_multiply a0 a1 a2 a3 Bc Bl Pk Pr Pl Pc Pm Gd Md).2.2.2.2.2.1) ((f_X5_multiply a0 a1 a2 a3 Bc Bl Pk Pr Pl Pc Pm Gd Md).2.2.2.2.2.2.1) ((f_X5_multiply a0 a1 a2 a3 Bc Bl Pk Pr Pl Pc Pm Gd Md).2.2.2.2.2.2.2.1) ((f_X5_multiply a0 a1 a2 a3 Bc Bl Pk Pr Pl Pc Pm Gd Md).2.2.2.2.2.2.2.2.1) Gf Gt Gx Gd Gm Ek Er Ea Ex Em Eb Et Ss Sm Wg Wr ((f_X5_multiply a0 a1 a2 a3 Bc Bl Pk Pr Pl Pc Pm Gd Md).2.2.2.2.2.2.2.2.2)) t.heap ∧ va_P (dC, dI) vwCl [(ou, .inl (cJ, 1, .inr (.inl (if (f_X5_multiply a0 a1 a2 a3 Bc Bl Pk Pr Pl Pc Pm Gd Md).1 = 0 then vp_updL Ou (0 : Int32).toNatClampNeg ((f_X5_multiply a0 a1 a2 a3 Bc Bl Pk Pr Pl Pc Pm Gd Md).2.1.toInt64) else Ou))))] t.heap) (fO 23 ad ou sz)) 3 18 (fO 23 ad ou sz) := by
  refine Met.ofWH (cc := cL_multiply) (maxL := 8) (ret := (some .int)) (hh := [(0, 14, 17, 13), (0, 14, 21, 23), (0, 14, 25, 25)]) (by decide) rfl ?_
  intro p e s m args below meth c s₁ B hml hv
  obtain ⟨rfl, hsz, hP, hK, hC, hQ⟩ := hv
  have hx := B.exec
  have hb := B.bytes
  have hr := B.returns
  have hat := atoms_spec (ws := (mWh yL_multiply cL_multiply 8 (some .int) [(0, 14, 17, 13), (0, 14, 21, 23), (0, 14, 25, 25)])) B.pre
  have hts := mWh_hts hat
  have htab := vx_table (x := yL_multiply) B (hat _ List.mem_cons_self)
  have hown : s.vm.findClass RL = some m.cls := findClass_of_methodNamed B.named
  have hlocks := B.notSynchronized
  subst hsz
  have hS : va_S (fO 23 ad ou s.heap.size) s.heap s.heap [] := va_S.rf
  have hl := lv_entry ([.ref (ad 0), .int a0, .int a1, .long a2, .int a3, .ref ou]) (n := 8) (Nat.le_of_ble_eq_true rfl)
  rw [lg_entry_eq]
  generalize (lg_sl ([.ref (ad 0), .int a0, .int a1, .long a2, .int a3, .ref ou]) ++ List.replicate (8 - (lg_sl ([.ref (ad 0), .int a0, .int a1, .long a2, .int a3, .ref ou])).length) Slot.unset).toArray = ls at hl ⊢
  have hl : lv_has ls 8 [(0, .ref (ad 0)), (1, .int a0), (2, .int a1), (3, .long a2), (5, .int a3), (6, .ref ou)] := hl
  refine lv_aload hx hb dL_multiply_0 (lv_at hl 5 rfl) ?_
  refine lv_iconst (v := 0) hx hb dL_multiply_2 (by decide) ?_
  refine lv_aload_n hx hb dL_multiply_3 rfl (lv_at hl 0 rfl) ?_
  refine lv_iload_n hx hb dL_multiply_4 rfl (lv_at hl 1 rfl) ?_
  refine lv_iload_n hx hb dL_multiply_5 rfl (lv_at hl 2 rfl) ?_
  refine lv_lload_n hx hb dL_multiply_6 rfl (lv_at hl 3 rfl) ?_
  refine lv_iload hx hb dL_multiply_7 (lv_at hl 4 rfl) ?_
  obtain ⟨u, hu⟩ : ∃ z, z = f_X5_multiply a0 a1 a2 a3 Bc Bl Pk Pr Pl Pc Pm Gd Md := ⟨_, rfl⟩
  rw [← hu] at ho
  refine qf_X5_multiply hst hx hb hml hown hts mM_RL_41 ⟨Nat.le_of_ble_eq_true rfl, Nat.le_of_ble_eq_true rfl⟩ ⟨Nat.le_of_ble_eq_true rfl, Nat.le_of_ble_eq_true rfl⟩ hl.1 (Nat.le_of_ble_eq_true rfl) hS dL_multiply_9 (fun _ h9 => Or.inl (fA_mono hS.1 h9)) hi hK hP hC a0 a1 a2 a3 hs u hu (fun hE c1 H1 locs1 hP hS hk9 hz9 ce q9 h71 h72 h73 => ?_) (fun c1 H1 locs1 hP hS hk9 hz9 => ?_)
  · rcases ho with h | h | h | h
    · exact absurd h c1
    · rw [h] at hE
      have hE : _ = x_IAE := hE
      subst hE
      refine vx_catch (name := x_IAE) (own := RL) (E := x_IAE) hown [] ⟨0, 14, 17, 13⟩ [⟨0, 14, 21, 23⟩, ⟨0, 14, 25, 25⟩] (by rw [htab]; rfl) (fun _ h => absurd h List.not_mem_nil) (by decide) (by decide) (hts _ mC_RL_13) (hC.ca _ (by decide +kernel)) h71 h72 h73 ?_
      refine lv_astore (lv' := [(7, .ref q9), (0, .ref (ad 0)), (1, .int a0), (2, .int a1), (3, .long a2), (5, .int a3), (6, .ref ou)]) hx hb dL_multiply_17 hl (by decide) rfl (fun ls hl => ?_)
      refine lv_iconst (v := 1) hx hb dL_multiply_19 (by decide) ?_
      have hQ := ou_keep hQ hou hk9
      exact W.iret (v := 1) hx hb hr (fun t ht hW => ⟨⟨1, (), rfl, by rw [← hu, h]; rfl, ⟨by show va_P (dC, dI) vwCl _ t.heap; rw [ht]; first | exact hP | (rw [← hu]; exact hP), by rw [ht, ← hu, if_neg (by rw [h]; decide)]; exact hQ⟩⟩, hS.F ht⟩) hS.2.2 dL_multiply_20
    · rw [h] at hE
      have hE : _ = x_IOO := hE
      subst hE
      refine vx_catch (name := x_IOO) (own := RL) (E := x_IOO) hown [⟨0, 14, 17, 13⟩] ⟨0, 14, 21, 23⟩ [⟨0, 14, 25, 25⟩] (by rw [htab]; rfl) (List.forall_mem_cons.mpr ⟨Or.inr ⟨by decide, x_IAE, hts _ mC_RL_13, hC.nc _ _ (by decide +kernel) (by decide +kernel) (by decide +kernel)⟩, fun _ h => absurd h List.not_mem_nil⟩) (by decide) (by decide) (hts _ mC_RL_23) (hC.ca _ (by decide +kernel)) h71 h72 h73 ?_
      refine lv_astore (lv' := [(7, .ref q9), (0, .ref (ad 0)), (1, .int a0), (2, .int a1), (3, .long a2), (5, .int a3), (6, .ref ou)]) hx hb dL_multiply_21 hl (by decide) rfl (fun ls hl => ?_)
      refine lv_iconst (v := 2) hx hb dL_multiply_23 (by decide) ?_
      have hQ := ou_keep hQ hou hk9
      exact W.iret (v := 2) hx hb hr (fun t ht hW => ⟨⟨2, (), rfl, by rw [← hu, h]; rfl, ⟨by show va_P (dC, dI) vwCl _ t.heap; rw [ht]; first | exact hP | (rw [← hu]; exact hP), by rw [ht, ← hu, if_neg (by rw [h]; decide)]; exact hQ⟩⟩, hS.F ht⟩) hS.2.2 dL_multiply_24
    · rw [h] at hE
      have hE : _ = x_UOE := hE
      subst hE
      refine vx_catch (name := x_UOE) (own := RL) (E := x_UOE) hown [⟨0, 14, 17, 13⟩, ⟨0, 14, 21, 23⟩] ⟨0, 14, 25, 25⟩ [] (by rw [htab]; rfl) (List.forall_mem_cons.mpr ⟨Or.inr ⟨by decide, x_IAE, hts _ mC_RL_13, hC.nc _ _ (by decide +kernel) (by decide +kernel) (by decide +kernel)⟩, List.forall_mem_cons.mpr ⟨Or.inr ⟨by decide, x_IOO, hts _ mC_RL_23, hC.nc _ _ (by decide +kernel) (by decide +kernel) (by decide +kernel)⟩, fun _ h => absurd h List.not_mem_nil⟩⟩) (by decide) (by decide) (hts _ mC_RL_25) (hC.ca _ (by decide +kernel)) h71 h72 h73 ?_
      refine lv_astore (lv' := [(7, .ref q9), (0, .ref (ad 0)), (1, .int a0), (2, .int a1), (3, .long a2), (5, .int a3), (6, .ref ou)]) hx hb dL_multiply_25 hl (by decide) rfl (fun ls hl => ?_)
      refine lv_iconst (v := 3) hx hb dL_multiply_27 (by decide) ?_
      have hQ := ou_keep hQ hou hk9
      exact W.iret (v := 3) hx hb hr (fun t ht hW => ⟨⟨3, (), rfl, by rw [← hu, h]; rfl, ⟨by show va_P (dC, dI) vwCl _ t.heap; rw [ht]; first | exact hP | (rw [← hu]; exact hP), by rw [ht, ← hu, if_neg (by rw [h]; decide)]; exact hQ⟩⟩, hS.F ht⟩) hS.2.2 dL_multiply_28
  · have hQ := ou_keep hQ hou hk9
    refine lv_i2l hx hb dL_multiply_12 rfl ?_
    have hPQ : va_P (dC, dI) vwCl ((wC ad cI cJ u.2.2.1 u.2.2.2.1 u.2.2.2.2.1 u.2.2.2.2.2.1 u.2.2.2.2.2.2.1 u.2.2.2.2.2.2.2.1 u.2.2.2.2.2.2.2.2.1 Gf Gt Gx Gd Gm Ek Er Ea Ex Em Eb Et Ss Sm Wg Wr u.2.2.2.2.2.2.2.2.2) ++ [(ou, .inl (cJ, 1, .inr (.inl Ou)))]) H1 := hP.app hQ
    refine va_last hx hb hK hPQ (ou_D hi hou rfl) hS 23 1 rfl rfl (by unfold vp_in; decide) dL_multiply_13 (fun H2 locs2 hPQ _ hS => ?_)
    have hPQ : va_P (dC, dI) vwCl ((wC ad cI cJ u.2.2.1 u.2.2.2.1 u.2.2.2.2.1 u.2.2.2.2.2.1 u.2.2.2.2.2.2.1 u.2.2.2.2.2.2.2.1 u.2.2.2.2.2.2.2.2.1 Gf Gt Gx Gd Gm Ek Er Ea Ex Em Eb Et Ss Sm Wg Wr u.2.2.2.2.2.2.2.2.2) ++ [(ou, .inl (cJ, 1, .inr (.inl (vp_updL Ou (0 : Int32).toNatClampNeg u.2.1.toInt64))))]) H2 := hPQ
    have hP := hPQ.sub (ws' := (wC ad cI cJ u.2.2.1 u.2.2.2.1 u.2.2.2.2.1 u.2.2.2.2.2.1 u.2.2.2.2.2.2.1 u.2.2.2.2.2.2.2.1 u.2.2.2.2.2.2.2.2.1 Gf Gt Gx Gd Gm Ek Er Ea Ex Em Eb Et Ss Sm Wg Wr u.2.2.2.2.2.2.2.2.2)) [0, 1, 2, 3, 4, 5, 6, 7, 8, 9, 10, 11, 12, 13, 14, 15, 16, 17, 18, 19, 20, 21, 22] rfl
    have hQ := hPQ.sub (ws' := [(ou, .inl (cJ, 1, .inr (.inl (vp_updL Ou (0 : Int32).toNatClampNeg u.2.1.toInt64))))]) [23] rfl
    refine lv_goto (tgt := 29) hx hb dL_multiply_14 (by decide) ?_
    refine lv_iconst (v := 0) hx hb dL_multiply_29 (by decide) ?_
    exact W.iret (v := 0) hx hb hr (fun t ht hW => ⟨⟨0, (), rfl, by rw [← hu, c1]; rfl, ⟨by show va_P (dC, dI) vwCl _ t.heap; rw [ht]; first | exact hP | (rw [← hu]; exact hP), by rw [ht, ← hu, if_pos c1]; exact hQ⟩⟩, hS.F ht⟩) hS.2.2 dL_multiply_30

def k_L_divide (o : Nat) : Int32 := if o = 1 then 1 else if o = 2 then 2 else if o = 5 then 3 else if o = 3 then 4 else  0
set_option maxHeartbeats 4000000 in
set_option maxRecDepth 100000 in
theorem c_L_divide (l : Launch) (hst : l.stackTraces = false) (dC : Nat → ClassId) (dI : Nat → Nat → Nat) (cI cJ : ClassId) (ad : Nat → Nat) (hi : fI 23 ad) (sz : Nat) (ou : Nat) (hou : ∀ k, k < 23 → ou ≠ ad k) (Ou : Nat → Int64) (Bc : Nat → Int64) (Bl : Nat → Int32) (Pk : Nat → Int32) (Pr : Nat → Int32) (Pl : Nat → Int32) (Pc : Nat → Int64) (Pm : Int32) (Gf : Nat → Int32) (Gt : Nat → Int32) (Gx : Nat → Int32) (Gd : Int32) (Gm : Int32) (Ek : Nat → Int32) (Er : Nat → Int32) (Ea : Nat → Int32) (Ex : Nat → Int32) (Em : Int32) (Eb : Int32) (Et : Int32) (Ss : Nat → Int32) (Sm : Int32) (Wg : Nat → Int64) (Wr : Nat → Int64) (Md : Nat → Int64) (a0 : Int32) (a1 : Int32) (a2 : Int64) (a3 : Int32) (hs : S_X5_divide a0 a1 a2 a3 Bc Bl Pk Pr Pl Pc Pm Gd Md) (ho : (f_X5_divide a0 a1 a2 a3 Bc Bl Pk Pr Pl Pc Pm Gd Md).1 = 0 ∨ (f_X5_divide a0 a1 a2 a3 Bc Bl Pk Pr Pl Pc Pm Gd Md).1 = 1 ∨ (f_X5_divide a0 a1 a2 a3 Bc Bl Pk Pr Pl Pc Pm Gd Md).1 = 2 ∨ (f_X5_divide a0 a1 a2 a3 Bc Bl Pk Pr Pl Pc Pm Gd Md).1 = 5 ∨ (f_X5_divide a0 a1 a2 a3 Bc Bl Pk Pr Pl Pc Pm Gd Md).1 = 3) : Met l yL_divide (mWh yL_divide cL_divide 8 (some .int) [(0, 14, 17, 13), (0, 14, 21, 23), (0, 14, 25, 47), (0, 14, 29, 25)]) { frames := 8, cells := 3, slots := 18, locals := 141 } (va_Pc [.ref (ad 0), .int a0, .int a1, .long a2, .int a3, .ref ou] (fun U => U.heap.size = sz ∧ va_P (dC, dI) vwCl (wC ad cI cJ Bc Bl Pk Pr Pl Pc Pm Gf Gt Gx Gd Gm Ek Er Ea Ex Em Eb Et Ss Sm Wg Wr Md) U.heap ∧ va_K (dC, dI) vwCl [(cI, .int), (cJ, .long)] U ∧ cxt (fO 23 ad ou sz) U U.heap ∧ va_P (dC, dI) vwCl [(ou, .inl (cJ, 1, .inr (.inl Ou)))] U.heap)) (va_Qi (fun (r : Int32) (_ : Unit) => r = k_L_divide ((f_X5_divide a0 a1 a2 a3 Bc Bl Pk Pr Pl Pc Pm Gd Md).1)) (fun _ t => va_P (dC, dI) vwCl (wC ad cI cJ ((f_X5_divide a0 a1 a2 a3 Bc Bl Pk Pr Pl Pc Pm Gd Md).2.2.1) ((f_X5_divide a0 a1 a2 a3 Bc Bl Pk Pr Pl Pc Pm Gd Md).2.2.2.1) ((f_X5_divide a0 a1 a2 a3 Bc Bl Pk Pr Pl Pc Pm Gd Md).2.2.2.2.1) ((f_X5_divide a0 a1 a2 a3 Bc Bl Pk Pr Pl Pc Pm Gd Md).2.2.2.2.2.1) ((f_X5_divide a0 a1 a2 a3 Bc Bl Pk Pr Pl Pc Pm Gd Md).2.2.2.2.2.2.1) ((f_X5_divide a0 a1 a2 a3 Bc Bl Pk Pr Pl Pc Pm Gd Md).2.2.2.2.2.2.2.1) ((f_X5_divide a0 a1 a2 a3 Bc Bl Pk Pr Pl Pc Pm Gd Md).2.2.2.2.2.2.2.2.1) Gf Gt Gx Gd Gm Ek Er Ea Ex Em Eb Et Ss Sm Wg Wr ((f_X5_divide a0 a1 a2 a3 Bc Bl Pk Pr Pl Pc Pm Gd Md).2.2.2.2.2.2.2.2.2)) t.heap ∧ va_P (dC, dI) vwCl [(ou, .inl (cJ, 1, .inr (.inl (if (f_X5_divide a0 a1 a2 a3 Bc Bl Pk Pr Pl Pc Pm Gd Md).1 = 0 then vp_updL Ou (0 : Int32).toNatClampNeg ((f_X5_divide a0 a1 a2 a3 Bc Bl Pk Pr Pl Pc Pm Gd Md).2.1.toInt64) else Ou))))] t.heap) (fO 23 ad ou sz)) 3 18 (fO 23 ad ou sz) := by
  refine Met.ofWH (cc := cL_divide) (maxL := 8) (ret := (some .int)) (hh := [(0, 14, 17, 13), (0, 14, 21, 23), (0, 14, 25, 47), (0, 14, 29, 25)]) (by decide) rfl ?_
  intro p e s m args below meth c s₁ B hml hv
  obtain ⟨rfl, hsz, hP, hK, hC, hQ⟩ := hv
  have hx := B.exec
  have hb := B.bytes
  have hr := B.returns
  have hat := atoms_spec (ws := (mWh yL_divide cL_divide 8 (some .int) [(0, 14, 17, 13), (0, 14, 21, 23), (0, 14, 25, 47), (0, 14, 29, 25)])) B.pre
  have hts := mWh_hts hat
  have htab := vx_table (x := yL_divide) B (hat _ List.mem_cons_self)
  have hown : s.vm.findClass RL = some m.cls := findClass_of_methodNamed B.named
  have hlocks := B.notSynchronized
  subst hsz
  have hS : va_S (fO 23 ad ou s.heap.size) s.heap s.heap [] := va_S.rf
  have hl := lv_entry ([.ref (ad 0), .int a0, .int a1, .long a2, .int a3, .ref ou]) (n := 8) (Nat.le_of_ble_eq_true rfl)
  rw [lg_entry_eq]
  generalize (lg_sl ([.ref (ad 0), .int a0, .int a1, .long a2, .int a3, .ref ou]) ++ List.replicate (8 - (lg_sl ([.ref (ad 0), .int a0, .int a1, .long a2, .int a3, .ref ou])).length) Slot.unset).toArray = ls at hl ⊢
  have hl : lv_has ls 8 [(0, .ref (ad 0)), (1, .int a0), (2, .int a1), (3, .long a2), (5, .int a3), (6, .ref ou)] := hl
  refine lv_aload hx hb dL_divide_0 (lv_at hl 5 rfl) ?_
  refine lv_iconst (v := 0) hx hb dL_divide_2 (by decide) ?_
  refine lv_aload_n hx hb dL_divide_3 rfl (lv_at hl 0 rfl) ?_
  refine lv_iload_n hx hb dL_divide_4 rfl (lv_at hl 1 rfl) ?_
  refine lv_iload_n hx hb dL_divide_5 rfl (lv_at hl 2 rfl) ?_
  refine lv_lload_n hx hb dL_divide_6 rfl (lv_at hl 3 rfl) ?_
  refine lv_iload hx hb dL_divide_7 (lv_at hl 4 rfl) ?_
  obtain ⟨u, hu⟩ : ∃ z, z = f_X5_divide a0 a1 a2 a3 Bc Bl Pk Pr Pl Pc Pm Gd Md := ⟨_, rfl⟩
  rw [← hu] at ho
  refine qf_X5_divide hst hx hb hml hown hts mM_RL_44 ⟨Nat.le_of_ble_eq_true rfl, Nat.le_of_ble_eq_true rfl⟩ ⟨Nat.le_of_ble_eq_true rfl, Nat.le_of_ble_eq_true rfl⟩ hl.1 (Nat.le_of_ble_eq_true rfl) hS dL_divide_9 (fun _ h9 => Or.inl (fA_mono hS.1 h9)) hi hK hP hC a0 a1 a2 a3 hs u hu (fun hE c1 H1 locs1 hP hS hk9 hz9 ce q9 h71 h72 h73 => ?_) (fun c1 H1 locs1 hP hS hk9 hz9 => ?_)
  · rcases ho with h | h | h | h | h
    · exact absurd h c1
    · rw [h] at hE
      have hE : _ = x_IAE := hE
      subst hE
      refine vx_catch (name := x_IAE) (own := RL) (E := x_IAE) hown [] ⟨0, 14, 17, 13⟩ [⟨0, 14, 21, 23⟩, ⟨0, 14, 25, 47⟩, ⟨0, 14, 29, 25⟩] (by rw [htab]; rfl) (fun _ h => absurd h List.not_mem_nil) (by decide) (by decide) (hts _ mC_RL_13) (hC.ca _ (by decide +kernel)) h71 h72 h73 ?_
      refine lv_astore (lv' := [(7, .ref q9), (0, .ref (ad 0)), (1, .int a0), (2, .int a1), (3, .long a2), (5, .int a3), (6, .ref ou)]) hx hb dL_divide_17 hl (by decide) rfl (fun ls hl => ?_)
      refine lv_iconst (v := 1) hx hb dL_divide_19 (by decide) ?_
      have hQ := ou_keep hQ hou hk9
      exact W.iret (v := 1) hx hb hr (fun t ht hW => ⟨⟨1, (), rfl, by rw [← hu, h]; rfl, ⟨by show va_P (dC, dI) vwCl _ t.heap; rw [ht]; first | exact hP | (rw [← hu]; exact hP), by rw [ht, ← hu, if_neg (by rw [h]; decide)]; exact hQ⟩⟩, hS.F ht⟩) hS.2.2 dL_divide_20
    · rw [h] at hE
      have hE : _ = x_IOO := hE
      subst hE
      refine vx_catch (name := x_IOO) (own := RL) (E := x_IOO) hown [⟨0, 14, 17, 13⟩] ⟨0, 14, 21, 23⟩ [⟨0, 14, 25, 47⟩, ⟨0, 14, 29, 25⟩] (by rw [htab]; rfl) (List.forall_mem_cons.mpr ⟨Or.inr ⟨by decide, x_IAE, hts _ mC_RL_13, hC.nc _ _ (by decide +kernel) (by decide +kernel) (by decide +kernel)⟩, fun _ h => absurd h List.not_mem_nil⟩) (by decide) (by decide) (hts _ mC_RL_23) (hC.ca _ (by decide +kernel)) h71 h72 h73 ?_
      refine lv_astore (lv' := [(7, .ref q9), (0, .ref (ad 0)), (1, .int a0), (2, .int a1), (3, .long a2), (5, .int a3), (6, .ref ou)]) hx hb dL_divide_21 hl (by decide) rfl (fun ls hl => ?_)
      refine lv_iconst (v := 2) hx hb dL_divide_23 (by decide) ?_
      have hQ := ou_keep hQ hou hk9
      exact W.iret (v := 2) hx hb hr (fun t ht hW => ⟨⟨2, (), rfl, by rw [← hu, h]; rfl, ⟨by show va_P (dC, dI) vwCl _ t.heap; rw [ht]; first | exact hP | (rw [← hu]; exact hP), by rw [ht, ← hu, if_neg (by rw [h]; decide)]; exact hQ⟩⟩, hS.F ht⟩) hS.2.2 dL_divide_24
    · rw [h] at hE
      have hE : _ = x_ARI := hE
      subst hE
      refine vx_catch (name := x_ARI) (own := RL) (E := x_ARI) hown [⟨0, 14, 17, 13⟩, ⟨0, 14, 21, 23⟩] ⟨0, 14, 25, 47⟩ [⟨0, 14, 29, 25⟩] (by rw [htab]; rfl) (List.forall_mem_cons.mpr ⟨Or.inr ⟨by decide, x_IAE, hts _ mC_RL_13, hC.nc _ _ (by decide +kernel) (by decide +kernel) (by decide +kernel)⟩, List.forall_mem_cons.mpr ⟨Or.inr ⟨by decide, x_IOO, hts _ mC_RL_23, hC.nc _ _ (by decide +kernel) (by decide +kernel) (by decide +kernel)⟩, fun _ h => absurd h List.not_mem_nil⟩⟩) (by decide) (by decide) (hts _ mC_RL_47) (hC.ca _ (by decide +kernel)) h71 h72 h73 ?_
      refine lv_astore (lv' := [(7, .ref q9), (0, .ref (ad 0)), (1, .int a0), (2, .int a1), (3, .long a2), (5, .int a3), (6, .ref ou)]) hx hb dL_divide_25 hl (by decide) rfl (fun ls hl => ?_)
      refine lv_iconst (v := 3) hx hb dL_divide_27 (by decide) ?_
      have hQ := ou_keep hQ hou hk9
      exact W.iret (v := 3) hx hb hr (fun t ht hW => ⟨⟨3, (), rfl, by rw [← hu, h]; rfl, ⟨by show va_P (dC, dI) vwCl _ t.heap; rw [ht]; first | exact hP | (rw [← hu]; exact hP), by rw [ht, ← hu, if_neg (by rw [h]; decide)]; exact hQ⟩⟩, hS.F ht⟩) hS.2.2 dL_divide_28
    · rw [h] at hE
      have hE : _ = x_UOE := hE
      subst hE
      refine vx_catch (name := x_UOE) (own := RL) (E := x_UOE) hown [⟨0, 14, 17, 13⟩, ⟨0, 14, 21, 23⟩, ⟨0, 14, 25, 47⟩] ⟨0, 14, 29, 25⟩ [] (by rw [htab]; rfl) (List.forall_mem_cons.mpr ⟨Or.inr ⟨by decide, x_IAE, hts _ mC_RL_13, hC.nc _ _ (by decide +kernel) (by decide +kernel) (by decide +kernel)⟩, List.forall_mem_cons.mpr ⟨Or.inr ⟨by decide, x_IOO, hts _ mC_RL_23, hC.nc _ _ (by decide +kernel) (by decide +kernel) (by decide +kernel)⟩, List.forall_mem_cons.mpr ⟨Or.inr ⟨by decide, x_ARI, hts _ mC_RL_47, hC.nc _ _ (by decide +kernel) (by decide +kernel) (by decide +kernel)⟩, fun _ h => absurd h List.not_mem_nil⟩⟩⟩) (by decide) (by decide) (hts _ mC_RL_25) (hC.ca _ (by decide +kernel)) h71 h72 h73 ?_
      refine lv_astore (lv' := [(7, .ref q9), (0, .ref (ad 0)), (1, .int a0), (2, .int a1), (3, .long a2), (5, .int a3), (6, .ref ou)]) hx hb dL_divide_29 hl (by decide) rfl (fun ls hl => ?_)
      refine lv_iconst (v := 4) hx hb dL_divide_31 (by decide) ?_
      have hQ := ou_keep hQ hou hk9
      exact W.iret (v := 4) hx hb hr (fun t ht hW => ⟨⟨4, (), rfl, by rw [← hu, h]; rfl, ⟨by show va_P (dC, dI) vwCl _ t.heap; rw [ht]; first | exact hP | (rw [← hu]; exact hP), by rw [ht, ← hu, if_neg (by rw [h]; decide)]; exact hQ⟩⟩, hS.F ht⟩) hS.2.2 dL_divide_32
  · have hQ := ou_keep hQ hou hk9
    refine lv_i2l hx hb dL_divide_12 rfl ?_
    have hPQ : va_P (dC, dI) vwCl ((wC ad cI cJ u.2.2.1 u.2.2.2.1 u.2.2.2.2.1 u.2.2.2.2.2.1 u.2.2.2.2.2.2.1 u.2.2.2.2.2.2.2.1 u.2.2.2.2.2.2.2.2.1 Gf Gt Gx Gd Gm Ek Er Ea Ex Em Eb Et Ss Sm Wg Wr u.2.2.2.2.2.2.2.2.2) ++ [(ou, .inl (cJ, 1, .inr (.inl Ou)))]) H1 := hP.app hQ
    refine va_last hx hb hK hPQ (ou_D hi hou rfl) hS 23 1 rfl rfl (by unfold vp_in; decide) dL_divide_13 (fun H2 locs2 hPQ _ hS => ?_)
    have hPQ : va_P (dC, dI) vwCl ((wC ad cI cJ u.2.2.1 u.2.2.2.1 u.2.2.2.2.1 u.2.2.2.2.2.1 u.2.2.2.2.2.2.1 u.2.2.2.2.2.2.2.1 u.2.2.2.2.2.2.2.2.1 Gf Gt Gx Gd Gm Ek Er Ea Ex Em Eb Et Ss Sm Wg Wr u.2.2.2.2.2.2.2.2.2) ++ [(ou, .inl (cJ, 1, .inr (.inl (vp_updL Ou (0 : Int32).toNatClampNeg u.2.1.toInt64))))]) H2 := hPQ
    have hP := hPQ.sub (ws' := (wC ad cI cJ u.2.2.1 u.2.2.2.1 u.2.2.2.2.1 u.2.2.2.2.2.1 u.2.2.2.2.2.2.1 u.2.2.2.2.2.2.2.1 u.2.2.2.2.2.2.2.2.1 Gf Gt Gx Gd Gm Ek Er Ea Ex Em Eb Et Ss Sm Wg Wr u.2.2.2.2.2.2.2.2.2)) [0, 1, 2, 3, 4, 5, 6, 7, 8, 9, 10, 11, 12, 13, 14, 15, 16, 17, 18, 19, 20, 21, 22] rfl
    have hQ := hPQ.sub (ws' := [(ou, .inl (cJ, 1, .inr (.inl (vp_updL Ou (0 : Int32).toNatClampNeg u.2.1.toInt64))))]) [23] rfl
    refine lv_goto (tgt := 33) hx hb dL_divide_14 (by decide) ?_
    refine lv_iconst (v := 0) hx hb dL_divide_33 (by decide) ?_
    exact W.iret (v := 0) hx hb hr (fun t ht hW => ⟨⟨0, (), rfl, by rw [← hu, c1]; rfl, ⟨by show va_P (dC, dI) vwCl _ t.heap; rw [ht]; first | exact hP | (rw [← hu]; exact hP), by rw [ht, ← hu, if_pos c1]; exact hQ⟩⟩, hS.F ht⟩) hS.2.2 dL_divide_34

def k_L_take (o : Nat) : Int32 := if o = 2 then 1 else  0
set_option maxHeartbeats 4000000 in
set_option maxRecDepth 100000 in
theorem c_L_take (l : Launch) (hst : l.stackTraces = false) (dC : Nat → ClassId) (dI : Nat → Nat → Nat) (cI cJ : ClassId) (ad : Nat → Nat) (hi : fI 23 ad) (sz : Nat) (ou : Nat) (hou : ∀ k, k < 23 → ou ≠ ad k) (Ou : Nat → Int64) (Bc : Nat → Int64) (Bl : Nat → Int32) (Pk : Nat → Int32) (Pr : Nat → Int32) (Pl : Nat → Int32) (Pc : Nat → Int64) (Pm : Int32) (Gf : Nat → Int32) (Gt : Nat → Int32) (Gx : Nat → Int32) (Gd : Int32) (Gm : Int32) (Ek : Nat → Int32) (Er : Nat → Int32) (Ea : Nat → Int32) (Ex : Nat → Int32) (Em : Int32) (Eb : Int32) (Et : Int32) (Ss : Nat → Int32) (Sm : Int32) (Wg : Nat → Int64) (Wr : Nat → Int64) (Md : Nat → Int64) (a0 : Int32) (hs : S_X5_take a0 Bc) (ho : (f_X5_take a0 Bc).1 = 0 ∨ (f_X5_take a0 Bc).1 = 2) : Met l yL_take (mWh yL_take cL_take 4 (some .int) [(0, 9, 12, 23)]) { frames := 8, cells := 1, slots := 6, locals := 136 } (va_Pc [.ref (ad 0), .int a0, .ref ou] (fun U => U.heap.size = sz ∧ va_P (dC, dI) vwCl (wC ad cI cJ Bc Bl Pk Pr Pl Pc Pm Gf Gt Gx Gd Gm Ek Er Ea Ex Em Eb Et Ss Sm Wg Wr Md) U.heap ∧ va_K (dC, dI) vwCl [(cI, .int), (cJ, .long)] U ∧ cxt (fO 23 ad ou sz) U U.heap ∧ va_P (dC, dI) vwCl [(ou, .inl (cJ, 1, .inr (.inl Ou)))] U.heap)) (va_Qi (fun (r : Int32) (_ : Unit) => r = k_L_take ((f_X5_take a0 Bc).1)) (fun _ t => va_P (dC, dI) vwCl (wC ad cI cJ ((f_X5_take a0 Bc).2.2) Bl Pk Pr Pl Pc Pm Gf Gt Gx Gd Gm Ek Er Ea Ex Em Eb Et Ss Sm Wg Wr Md) t.heap ∧ va_P (dC, dI) vwCl [(ou, .inl (cJ, 1, .inr (.inl (if (f_X5_take a0 Bc).1 = 0 then vp_updL Ou (0 : Int32).toNatClampNeg ((f_X5_take a0 Bc).2.1.toInt64) else Ou))))] t.heap) (fO 23 ad ou sz)) 1 6 (fO 23 ad ou sz) := by
  refine Met.ofWH (cc := cL_take) (maxL := 4) (ret := (some .int)) (hh := [(0, 9, 12, 23)]) (by decide) rfl ?_
  intro p e s m args below meth c s₁ B hml hv
  obtain ⟨rfl, hsz, hP, hK, hC, hQ⟩ := hv
  have hx := B.exec
  have hb := B.bytes
  have hr := B.returns
  have hat := atoms_spec (ws := (mWh yL_take cL_take 4 (some .int) [(0, 9, 12, 23)])) B.pre
  have hts := mWh_hts hat
  have htab := vx_table (x := yL_take) B (hat _ List.mem_cons_self)
  have hown : s.vm.findClass RL = some m.cls := findClass_of_methodNamed B.named
  have hlocks := B.notSynchronized
  subst hsz
  have hS : va_S (fO 23 ad ou s.heap.size) s.heap s.heap [] := va_S.rf
  have hl := lv_entry ([.ref (ad 0), .int a0, .ref ou]) (n := 4) (Nat.le_of_ble_eq_true rfl)
  rw [lg_entry_eq]
  generalize (lg_sl ([.ref (ad 0), .int a0, .ref ou]) ++ List.replicate (4 - (lg_sl ([.ref (ad 0), .int a0, .ref ou])).length) Slot.unset).toArray = ls at hl ⊢
  have hl : lv_has ls 4 [(0, .ref (ad 0)), (1, .int a0), (2, .ref ou)] := hl
  refine lv_aload_n hx hb dL_take_0 rfl (lv_at hl 2 rfl) ?_
  refine lv_iconst (v := 0) hx hb dL_take_1 (by decide) ?_
  refine lv_aload_n hx hb dL_take_2 rfl (lv_at hl 0 rfl) ?_
  refine lv_iload_n hx hb dL_take_3 rfl (lv_at hl 1 rfl) ?_
  obtain ⟨u, hu⟩ : ∃ z, z = f_X5_take a0 Bc := ⟨_, rfl⟩
  rw [← hu] at ho
  refine qf_X5_take hst hx hb hml hown hts mM_RL_49 ⟨Nat.le_of_ble_eq_true rfl, Nat.le_of_ble_eq_true rfl⟩ ⟨Nat.le_of_ble_eq_true rfl, Nat.le_of_ble_eq_true rfl⟩ hl.1 (Nat.le_of_ble_eq_true rfl) hS dL_take_4 (fun _ h9 => Or.inl (fA_mono hS.1 h9)) hi hK hP hC a0 hs u hu (fun hE c1 H1 locs1 hP hS hk9 hz9 ce q9 h71 h72 h73 => ?_) (fun c1 H1 locs1 hP hS hk9 hz9 => ?_)
  · rcases ho with h | h
    · exact absurd h c1
    · rw [h] at hE
      have hE : _ = x_IOO := hE
      subst hE
      refine vx_catch (name := x_IOO) (own := RL) (E := x_IOO) hown [] ⟨0, 9, 12, 23⟩ [] (by rw [htab]; rfl) (fun _ h => absurd h List.not_mem_nil) (by decide) (by decide) (hts _ mC_RL_23) (hC.ca _ (by decide +kernel)) h71 h72 h73 ?_
      refine lv_astore_n (lv' := [(3, .ref q9), (0, .ref (ad 0)), (1, .int a0), (2, .ref ou)]) hx hb dL_take_12 rfl hl (by decide) rfl (fun ls hl => ?_)
      refine lv_iconst (v := 1) hx hb dL_take_13 (by decide) ?_
      have hQ := ou_keep hQ hou hk9
      exact W.iret (v := 1) hx hb hr (fun t ht hW => ⟨⟨1, (), rfl, by rw [← hu, h]; rfl, ⟨by show va_P (dC, dI) vwCl _ t.heap; rw [ht]; first | exact hP | (rw [← hu]; exact hP), by rw [ht, ← hu, if_neg (by rw [h]; decide)]; exact hQ⟩⟩, hS.F ht⟩) hS.2.2 dL_take_14
  · have hQ := ou_keep hQ hou hk9
    refine lv_i2l hx hb dL_take_7 rfl ?_
    have hPQ : va_P (dC, dI) vwCl ((wC ad cI cJ u.2.2 Bl Pk Pr Pl Pc Pm Gf Gt Gx Gd Gm Ek Er Ea Ex Em Eb Et Ss Sm Wg Wr Md) ++ [(ou, .inl (cJ, 1, .inr (.inl Ou)))]) H1 := hP.app hQ
    refine va_last hx hb hK hPQ (ou_D hi hou rfl) hS 23 1 rfl rfl (by unfold vp_in; decide) dL_take_8 (fun H2 locs2 hPQ _ hS => ?_)
    have hPQ : va_P (dC, dI) vwCl ((wC ad cI cJ u.2.2 Bl Pk Pr Pl Pc Pm Gf Gt Gx Gd Gm Ek Er Ea Ex Em Eb Et Ss Sm Wg Wr Md) ++ [(ou, .inl (cJ, 1, .inr (.inl (vp_updL Ou (0 : Int32).toNatClampNeg u.2.1.toInt64))))]) H2 := hPQ
    have hP := hPQ.sub (ws' := (wC ad cI cJ u.2.2 Bl Pk Pr Pl Pc Pm Gf Gt Gx Gd Gm Ek Er Ea Ex Em Eb Et Ss Sm Wg Wr Md)) [0, 1, 2, 3, 4, 5, 6, 7, 8, 9, 10, 11, 12, 13, 14, 15, 16, 17, 18, 19, 20, 21, 22] rfl
    have hQ := hPQ.sub (ws' := [(ou, .inl (cJ, 1, .inr (.inl (vp_updL Ou (0 : Int32).toNatClampNeg u.2.1.toInt64))))]) [23] rfl
    refine lv_goto (tgt := 15) hx hb dL_take_9 (by decide) ?_
    refine lv_iconst (v := 0) hx hb dL_take_15 (by decide) ?_
    exact W.iret (v := 0) hx hb hr (fun t ht hW => ⟨⟨0, (), rfl, by rw [← hu, c1]; rfl, ⟨by show va_P (dC, dI) vwCl _ t.heap; rw [ht]; first | exact hP | (rw [← hu]; exact hP), by rw [ht, ← hu, if_pos c1]; exact hQ⟩⟩, hS.F ht⟩) hS.2.2 dL_take_16

def k_L_group (o : Nat) : Int32 := if o = 3 then 1 else  0
set_option maxHeartbeats 4000000 in
set_option maxRecDepth 100000 in
theorem c_L_group (l : Launch) (hst : l.stackTraces = false) (dC : Nat → ClassId) (dI : Nat → Nat → Nat) (cI cJ : ClassId) (ad : Nat → Nat) (hi : fI 23 ad) (sz : Nat) (ou : Nat) (hou : ∀ k, k < 23 → ou ≠ ad k) (Ou : Nat → Int64) (Bc : Nat → Int64) (Bl : Nat → Int32) (Pk : Nat → Int32) (Pr : Nat → Int32) (Pl : Nat → Int32) (Pc : Nat → Int64) (Pm : Int32) (Gf : Nat → Int32) (Gt : Nat → Int32) (Gx : Nat → Int32) (Gd : Int32) (Gm : Int32) (Ek : Nat → Int32) (Er : Nat → Int32) (Ea : Nat → Int32) (Ex : Nat → Int32) (Em : Int32) (Eb : Int32) (Et : Int32) (Ss : Nat → Int32) (Sm : Int32) (Wg : Nat → Int64) (Wr : Nat → Int64) (Md : Nat → Int64) (hs : S_X5_group Pm Gf Gt Gd Gm) (ho : (f_X5_group Pm Gf Gt Gd Gm).1 = 0 ∨ (f_X5_group Pm Gf Gt Gd Gm).1 = 3) : Met l yL_group (mWh yL_group cL_group 3 (some .int) [(0, 8, 11, 25)]) { frames := 7, cells := 1, slots := 6, locals := 112 } (va_Pc [.ref (ad 0), .ref ou] (fun U => U.heap.size = sz ∧ va_P (dC, dI) vwCl (wC ad cI cJ Bc Bl Pk Pr Pl Pc Pm Gf Gt Gx Gd Gm Ek Er Ea Ex Em Eb Et Ss Sm Wg Wr Md) U.heap ∧ va_K (dC, dI) vwCl [(cI, .int), (cJ, .long)] U ∧ cxt (fO 23 ad ou sz) U U.heap ∧ va_P (dC, dI) vwCl [(ou, .inl (cJ, 1, .inr (.inl Ou)))] U.heap)) (va_Qi (fun (r : Int32) (_ : Unit) => r = k_L_group ((f_X5_group Pm Gf Gt Gd Gm).1)) (fun _ t => va_P (dC, dI) vwCl (wC ad cI cJ Bc Bl Pk Pr Pl Pc Pm ((f_X5_group Pm Gf Gt Gd Gm).2.2.1) ((f_X5_group Pm Gf Gt Gd Gm).2.2.2.1) Gx ((f_X5_group Pm Gf Gt Gd Gm).2.2.2.2) Gm Ek Er Ea Ex Em Eb Et Ss Sm Wg Wr Md) t.heap ∧ va_P (dC, dI) vwCl [(ou, .inl (cJ, 1, .inr (.inl (if (f_X5_group Pm Gf Gt Gd Gm).1 = 0 then vp_updL Ou (0 : Int32).toNatClampNeg ((f_X5_group Pm Gf Gt Gd Gm).2.1.toInt64) else Ou))))] t.heap) (fO 23 ad ou sz)) 1 6 (fO 23 ad ou sz) := by
  refine Met.ofWH (cc := cL_group) (maxL := 3) (ret := (some .int)) (hh := [(0, 8, 11, 25)]) (by decide) rfl ?_
  intro p e s m args below meth c s₁ B hml hv
  obtain ⟨rfl, hsz, hP, hK, hC, hQ⟩ := hv
  have hx := B.exec
  have hb := B.bytes
  have hr := B.returns
  have hat := atoms_spec (ws := (mWh yL_group cL_group 3 (some .int) [(0, 8, 11, 25)])) B.pre
  have hts := mWh_hts hat
  have htab := vx_table (x := yL_group) B (hat _ List.mem_cons_self)
  have hown : s.vm.findClass RL = some m.cls := findClass_of_methodNamed B.named
  have hlocks := B.notSynchronized
  subst hsz
  have hS : va_S (fO 23 ad ou s.heap.size) s.heap s.heap [] := va_S.rf
  have hl := lv_entry ([.ref (ad 0), .ref ou]) (n := 3) (Nat.le_of_ble_eq_true rfl)
  rw [lg_entry_eq]
  generalize (lg_sl ([.ref (ad 0), .ref ou]) ++ List.replicate (3 - (lg_sl ([.ref (ad 0), .ref ou])).length) Slot.unset).toArray = ls at hl ⊢
  have hl : lv_has ls 3 [(0, .ref (ad 0)), (1, .ref ou)] := hl
  refine lv_aload_n hx hb dL_group_0 rfl (lv_at hl 1 rfl) ?_
  refine lv_iconst (v := 0) hx hb dL_group_1 (by decide) ?_
  refine lv_aload_n hx hb dL_group_2 rfl (lv_at hl 0 rfl) ?_
  obtain ⟨u, hu⟩ : ∃ z, z = f_X5_group Pm Gf Gt Gd Gm := ⟨_, rfl⟩
  rw [← hu] at ho
  refine qf_X5_group hst hx hb hml hown hts mM_RL_52 ⟨Nat.le_of_ble_eq_true rfl, Nat.le_of_ble_eq_true rfl⟩ ⟨Nat.le_of_ble_eq_true rfl, Nat.le_of_ble_eq_true rfl⟩ hl.1 (Nat.le_of_ble_eq_true rfl) hS dL_group_3 (fun _ h9 => Or.inl (fA_mono hS.1 h9)) hi hK hP hC hs u hu (fun hE c1 H1 locs1 hP hS hk9 hz9 ce q9 h71 h72 h73 => ?_) (fun c1 H1 locs1 hP hS hk9 hz9 => ?_)
  · rcases ho with h | h
    · exact absurd h c1
    · rw [h] at hE
      have hE : _ = x_UOE := hE
      subst hE
      refine vx_catch (name := x_UOE) (own := RL) (E := x_UOE) hown [] ⟨0, 8, 11, 25⟩ [] (by rw [htab]; rfl) (fun _ h => absurd h List.not_mem_nil) (by decide) (by decide) (hts _ mC_RL_25) (hC.ca _ (by decide +kernel)) h71 h72 h73 ?_
      refine lv_astore_n (lv' := [(2, .ref q9), (0, .ref (ad 0)), (1, .ref ou)]) hx hb dL_group_11 rfl hl (by decide) rfl (fun ls hl => ?_)
      refine lv_iconst (v := 1) hx hb dL_group_12 (by decide) ?_
      have hQ := ou_keep hQ hou hk9
      exact W.iret (v := 1) hx hb hr (fun t ht hW => ⟨⟨1, (), rfl, by rw [← hu, h]; rfl, ⟨by show va_P (dC, dI) vwCl _ t.heap; rw [ht]; first | exact hP | (rw [← hu]; exact hP), by rw [ht, ← hu, if_neg (by rw [h]; decide)]; exact hQ⟩⟩, hS.F ht⟩) hS.2.2 dL_group_13
  · have hQ := ou_keep hQ hou hk9
    refine lv_i2l hx hb dL_group_6 rfl ?_
    have hPQ : va_P (dC, dI) vwCl ((wC ad cI cJ Bc Bl Pk Pr Pl Pc Pm u.2.2.1 u.2.2.2.1 Gx u.2.2.2.2 Gm Ek Er Ea Ex Em Eb Et Ss Sm Wg Wr Md) ++ [(ou, .inl (cJ, 1, .inr (.inl Ou)))]) H1 := hP.app hQ
    refine va_last hx hb hK hPQ (ou_D hi hou rfl) hS 23 1 rfl rfl (by unfold vp_in; decide) dL_group_7 (fun H2 locs2 hPQ _ hS => ?_)
    have hPQ : va_P (dC, dI) vwCl ((wC ad cI cJ Bc Bl Pk Pr Pl Pc Pm u.2.2.1 u.2.2.2.1 Gx u.2.2.2.2 Gm Ek Er Ea Ex Em Eb Et Ss Sm Wg Wr Md) ++ [(ou, .inl (cJ, 1, .inr (.inl (vp_updL Ou (0 : Int32).toNatClampNeg u.2.1.toInt64))))]) H2 := hPQ
    have hP := hPQ.sub (ws' := (wC ad cI cJ Bc Bl Pk Pr Pl Pc Pm u.2.2.1 u.2.2.2.1 Gx u.2.2.2.2 Gm Ek Er Ea Ex Em Eb Et Ss Sm Wg Wr Md)) [0, 1, 2, 3, 4, 5, 6, 7, 8, 9, 10, 11, 12, 13, 14, 15, 16, 17, 18, 19, 20, 21, 22] rfl
    have hQ := hPQ.sub (ws' := [(ou, .inl (cJ, 1, .inr (.inl (vp_updL Ou (0 : Int32).toNatClampNeg u.2.1.toInt64))))]) [23] rfl
    refine lv_goto (tgt := 14) hx hb dL_group_8 (by decide) ?_
    refine lv_iconst (v := 0) hx hb dL_group_14 (by decide) ?_
    exact W.iret (v := 0) hx hb hr (fun t ht hW => ⟨⟨0, (), rfl, by rw [← hu, c1]; rfl, ⟨by show va_P (dC, dI) vwCl _ t.heap; rw [ht]; first | exact hP | (rw [← hu]; exact hP), by rw [ht, ← hu, if_pos c1]; exact hQ⟩⟩, hS.F ht⟩) hS.2.2 dL_group_15

def k_L_after (o : Nat) : Int32 := if o = 1 then 1 else if o = 4 then 2 else if o = 3 then 3 else  0
set_option maxHeartbeats 4000000 in
set_option maxRecDepth 100000 in
theorem c_L_after (l : Launch) (hst : l.stackTraces = false) (dC : Nat → ClassId) (dI : Nat → Nat → Nat) (cI cJ : ClassId) (ad : Nat → Nat) (hi : fI 23 ad) (sz : Nat) (ou : Nat) (hou : ∀ k, k < 23 → ou ≠ ad k) (Ou : Nat → Int64) (Bc : Nat → Int64) (Bl : Nat → Int32) (Pk : Nat → Int32) (Pr : Nat → Int32) (Pl : Nat → Int32) (Pc : Nat → Int64) (Pm : Int32) (Gf : Nat → Int32) (Gt : Nat → Int32) (Gx : Nat → Int32) (Gd : Int32) (Gm : Int32) (Ek : Nat → Int32) (Er : Nat → Int32) (Ea : Nat → Int32) (Ex : Nat → Int32) (Em : Int32) (Eb : Int32) (Et : Int32) (Ss : Nat → Int32) (Sm : Int32) (Wg : Nat → Int64) (Wr : Nat → Int64) (Md : Nat → Int64) (a0 : Int32) (hs : S_X5_after a0 Gt Gx Gd Gm) (ho : (f_X5_after a0 Gt Gx Gd Gm).1 = 0 ∨ (f_X5_after a0 Gt Gx Gd Gm).1 = 1 ∨ (f_X5_after a0 Gt Gx Gd Gm).1 = 4 ∨ (f_X5_after a0 Gt Gx Gd Gm).1 = 3) : Met l yL_after (mWh yL_after cL_after 4 (some .int) [(0, 9, 12, 13), (0, 9, 15, 59), (0, 9, 18, 25)]) { frames := 8, cells := 2, slots := 12, locals := 133 } (va_Pc [.ref (ad 0), .int a0, .ref ou] (fun U => U.heap.size = sz ∧ va_P (dC, dI) vwCl (wC ad cI cJ Bc Bl Pk Pr Pl Pc Pm Gf Gt Gx Gd Gm Ek Er Ea Ex Em Eb Et Ss Sm Wg Wr Md) U.heap ∧ va_K (dC, dI) vwCl [(cI, .int), (cJ, .long)] U ∧ cxt (fO 23 ad ou sz) U U.heap ∧ va_P (dC, dI) vwCl [(ou, .inl (cJ, 1, .inr (.inl Ou)))] U.heap)) (va_Qi (fun (r : Int32) (_ : Unit) => r = k_L_after ((f_X5_after a0 Gt Gx Gd Gm).1)) (fun _ t => va_P (dC, dI) vwCl (wC ad cI cJ Bc Bl Pk Pr Pl Pc Pm Gf Gt ((f_X5_after a0 Gt Gx Gd Gm).2.2.1) Gd ((f_X5_after a0 Gt Gx Gd Gm).2.2.2) Ek Er Ea Ex Em Eb Et Ss Sm Wg Wr Md) t.heap ∧ va_P (dC, dI) vwCl [(ou, .inl (cJ, 1, .inr (.inl (if (f_X5_after a0 Gt Gx Gd Gm).1 = 0 then vp_updL Ou (0 : Int32).toNatClampNeg ((f_X5_after a0 Gt Gx Gd Gm).2.1.toInt64) else Ou))))] t.heap) (fO 23 ad ou sz)) 2 12 (fO 23 ad ou sz) := by
  refine Met.ofWH (cc := cL_after) (maxL := 4) (ret := (some .int)) (hh := [(0, 9, 12, 13), (0, 9, 15, 59), (0, 9, 18, 25)]) (by decide) rfl ?_
  intro p e s m args below meth c s₁ B hml hv
  obtain ⟨rfl, hsz, hP, hK, hC, hQ⟩ := hv
  have hx := B.exec
  have hb := B.bytes
  have hr := B.returns
  have hat := atoms_spec (ws := (mWh yL_after cL_after 4 (some .int) [(0, 9, 12, 13), (0, 9, 15, 59), (0, 9, 18, 25)])) B.pre
  have hts := mWh_hts hat
  have htab := vx_table (x := yL_after) B (hat _ List.mem_cons_self)
  have hown : s.vm.findClass RL = some m.cls := findClass_of_methodNamed B.named
  have hlocks := B.notSynchronized
  subst hsz
  have hS : va_S (fO 23 ad ou s.heap.size) s.heap s.heap [] := va_S.rf
  have hl := lv_entry ([.ref (ad 0), .int a0, .ref ou]) (n := 4) (Nat.le_of_ble_eq_true rfl)
  rw [lg_entry_eq]
  generalize (lg_sl ([.ref (ad 0), .int a0, .ref ou]) ++ List.replicate (4 - (lg_sl ([.ref (ad 0), .int a0, .ref ou])).length) Slot.unset).toArray = ls at hl ⊢
  have hl : lv_has ls 4 [(0, .ref (ad 0)), (1, .int a0), (2, .ref ou)] := hl
  refine lv_aload_n hx hb dL_after_0 rfl (lv_at hl 2 rfl) ?_
  refine lv_iconst (v := 0) hx hb dL_after_1 (by decide) ?_
  refine lv_aload_n hx hb dL_after_2 rfl (lv_at hl 0 rfl) ?_
  refine lv_iload_n hx hb dL_after_3 rfl (lv_at hl 1 rfl) ?_
  obtain ⟨u, hu⟩ : ∃ z, z = f_X5_after a0 Gt Gx Gd Gm := ⟨_, rfl⟩
  rw [← hu] at ho
  refine qf_X5_after hst hx hb hml hown hts mM_RL_56 ⟨Nat.le_of_ble_eq_true rfl, Nat.le_of_ble_eq_true rfl⟩ ⟨Nat.le_of_ble_eq_true rfl, Nat.le_of_ble_eq_true rfl⟩ hl.1 (Nat.le_of_ble_eq_true rfl) hS dL_after_4 (fun _ h9 => Or.inl (fA_mono hS.1 h9)) hi hK hP hC a0 hs u hu (fun hE c1 H1 locs1 hP hS hk9 hz9 ce q9 h71 h72 h73 => ?_) (fun c1 H1 locs1 hP hS hk9 hz9 => ?_)
  · rcases ho with h | h | h | h
    · exact absurd h c1
    · rw [h] at hE
      have hE : _ = x_IAE := hE
      subst hE
      refine vx_catch (name := x_IAE) (own := RL) (E := x_IAE) hown [] ⟨0, 9, 12, 13⟩ [⟨0, 9, 15, 59⟩, ⟨0, 9, 18, 25⟩] (by rw [htab]; rfl) (fun _ h => absurd h List.not_mem_nil) (by decide) (by decide) (hts _ mC_RL_13) (hC.ca _ (by decide +kernel)) h71 h72 h73 ?_
      refine lv_astore_n (lv' := [(3, .ref q9), (0, .ref (ad 0)), (1, .int a0), (2, .ref ou)]) hx hb dL_after_12 rfl hl (by decide) rfl (fun ls hl => ?_)
      refine lv_iconst (v := 1) hx hb dL_after_13 (by decide) ?_
      have hQ := ou_keep hQ hou hk9
      exact W.iret (v := 1) hx hb hr (fun t ht hW => ⟨⟨1, (), rfl, by rw [← hu, h]; rfl, ⟨by show va_P (dC, dI) vwCl _ t.heap; rw [ht]; first | exact hP | (rw [← hu]; exact hP), by rw [ht, ← hu, if_neg (by rw [h]; decide)]; exact hQ⟩⟩, hS.F ht⟩) hS.2.2 dL_after_14
    · rw [h] at hE
      have hE : _ = x_ISE := hE
      subst hE
      refine vx_catch (name := x_ISE) (own := RL) (E := x_ISE) hown [⟨0, 9, 12, 13⟩] ⟨0, 9, 15, 59⟩ [⟨0, 9, 18, 25⟩] (by rw [htab]; rfl) (List.forall_mem_cons.mpr ⟨Or.inr ⟨by decide, x_IAE, hts _ mC_RL_13, hC.nc _ _ (by decide +kernel) (by decide +kernel) (by decide +kernel)⟩, fun _ h => absurd h List.not_mem_nil⟩) (by decide) (by decide) (hts _ mC_RL_59) (hC.ca _ (by decide +kernel)) h71 h72 h73 ?_
      refine lv_astore_n (lv' := [(3, .ref q9), (0, .ref (ad 0)), (1, .int a0), (2, .ref ou)]) hx hb dL_after_15 rfl hl (by decide) rfl (fun ls hl => ?_)
      refine lv_iconst (v := 2) hx hb dL_after_16 (by decide) ?_
      have hQ := ou_keep hQ hou hk9
      exact W.iret (v := 2) hx hb hr (fun t ht hW => ⟨⟨2, (), rfl, by rw [← hu, h]; rfl, ⟨by show va_P (dC, dI) vwCl _ t.heap; rw [ht]; first | exact hP | (rw [← hu]; exact hP), by rw [ht, ← hu, if_neg (by rw [h]; decide)]; exact hQ⟩⟩, hS.F ht⟩) hS.2.2 dL_after_17
    · rw [h] at hE
      have hE : _ = x_UOE := hE
      subst hE
      refine vx_catch (name := x_UOE) (own := RL) (E := x_UOE) hown [⟨0, 9, 12, 13⟩, ⟨0, 9, 15, 59⟩] ⟨0, 9, 18, 25⟩ [] (by rw [htab]; rfl) (List.forall_mem_cons.mpr ⟨Or.inr ⟨by decide, x_IAE, hts _ mC_RL_13, hC.nc _ _ (by decide +kernel) (by decide +kernel) (by decide +kernel)⟩, List.forall_mem_cons.mpr ⟨Or.inr ⟨by decide, x_ISE, hts _ mC_RL_59, hC.nc _ _ (by decide +kernel) (by decide +kernel) (by decide +kernel)⟩, fun _ h => absurd h List.not_mem_nil⟩⟩) (by decide) (by decide) (hts _ mC_RL_25) (hC.ca _ (by decide +kernel)) h71 h72 h73 ?_
      refine lv_astore_n (lv' := [(3, .ref q9), (0, .ref (ad 0)), (1, .int a0), (2, .ref ou)]) hx hb dL_after_18 rfl hl (by decide) rfl (fun ls hl => ?_)
      refine lv_iconst (v := 3) hx hb dL_after_19 (by decide) ?_
      have hQ := ou_keep hQ hou hk9
      exact W.iret (v := 3) hx hb hr (fun t ht hW => ⟨⟨3, (), rfl, by rw [← hu, h]; rfl, ⟨by show va_P (dC, dI) vwCl _ t.heap; rw [ht]; first | exact hP | (rw [← hu]; exact hP), by rw [ht, ← hu, if_neg (by rw [h]; decide)]; exact hQ⟩⟩, hS.F ht⟩) hS.2.2 dL_after_20
  · have hQ := ou_keep hQ hou hk9
    refine lv_i2l hx hb dL_after_7 rfl ?_
    have hPQ : va_P (dC, dI) vwCl ((wC ad cI cJ Bc Bl Pk Pr Pl Pc Pm Gf Gt u.2.2.1 Gd u.2.2.2 Ek Er Ea Ex Em Eb Et Ss Sm Wg Wr Md) ++ [(ou, .inl (cJ, 1, .inr (.inl Ou)))]) H1 := hP.app hQ
    refine va_last hx hb hK hPQ (ou_D hi hou rfl) hS 23 1 rfl rfl (by unfold vp_in; decide) dL_after_8 (fun H2 locs2 hPQ _ hS => ?_)
    have hPQ : va_P (dC, dI) vwCl ((wC ad cI cJ Bc Bl Pk Pr Pl Pc Pm Gf Gt u.2.2.1 Gd u.2.2.2 Ek Er Ea Ex Em Eb Et Ss Sm Wg Wr Md) ++ [(ou, .inl (cJ, 1, .inr (.inl (vp_updL Ou (0 : Int32).toNatClampNeg u.2.1.toInt64))))]) H2 := hPQ
    have hP := hPQ.sub (ws' := (wC ad cI cJ Bc Bl Pk Pr Pl Pc Pm Gf Gt u.2.2.1 Gd u.2.2.2 Ek Er Ea Ex Em Eb Et Ss Sm Wg Wr Md)) [0, 1, 2, 3, 4, 5, 6, 7, 8, 9, 10, 11, 12, 13, 14, 15, 16, 17, 18, 19, 20, 21, 22] rfl
    have hQ := hPQ.sub (ws' := [(ou, .inl (cJ, 1, .inr (.inl (vp_updL Ou (0 : Int32).toNatClampNeg u.2.1.toInt64))))]) [23] rfl
    refine lv_goto (tgt := 21) hx hb dL_after_9 (by decide) ?_
    refine lv_iconst (v := 0) hx hb dL_after_21 (by decide) ?_
    exact W.iret (v := 0) hx hb hr (fun t ht hW => ⟨⟨0, (), rfl, by rw [← hu, c1]; rfl, ⟨by show va_P (dC, dI) vwCl _ t.heap; rw [ht]; first | exact hP | (rw [← hu]; exact hP), by rw [ht, ← hu, if_pos c1]; exact hQ⟩⟩, hS.F ht⟩) hS.2.2 dL_after_22

def k_L_end (o : Nat) : Int32 := if o = 4 then 1 else  0
set_option maxHeartbeats 4000000 in
set_option maxRecDepth 100000 in
theorem c_L_end (l : Launch) (hst : l.stackTraces = false) (dC : Nat → ClassId) (dI : Nat → Nat → Nat) (cI cJ : ClassId) (ad : Nat → Nat) (hi : fI 23 ad) (sz : Nat) (ou : Nat) (hou : ∀ k, k < 23 → ou ≠ ad k) (Ou : Nat → Int64) (Bc : Nat → Int64) (Bl : Nat → Int32) (Pk : Nat → Int32) (Pr : Nat → Int32) (Pl : Nat → Int32) (Pc : Nat → Int64) (Pm : Int32) (Gf : Nat → Int32) (Gt : Nat → Int32) (Gx : Nat → Int32) (Gd : Int32) (Gm : Int32) (Ek : Nat → Int32) (Er : Nat → Int32) (Ea : Nat → Int32) (Ex : Nat → Int32) (Em : Int32) (Eb : Int32) (Et : Int32) (Ss : Nat → Int32) (Sm : Int32) (Wg : Nat → Int64) (Wr : Nat → Int64) (Md : Nat → Int64) (hs : S_X5_end Bc Bl Pk Pr Pl Pc Pm Gf Gt Gx Gd Gm Ek Er Ea Ex Em Eb Et) (ho : (f_X5_end Bc Bl Pk Pr Pl Pc Pm Gf Gt Gx Gd Gm Ek Er Ea Ex Em Eb Et).1 = 0 ∨ (f_X5_end Bc Bl Pk Pr Pl Pc Pm Gf Gt Gx Gd Gm Ek Er Ea Ex Em Eb Et).1 = 4) : Met l yL_end (mWh yL_end cL_end 3 (some .int) [(0, 8, 11, 59)]) { frames := 7, cells := 1, slots := 6, locals := 130 } (va_Pc [.ref (ad 0), .ref ou] (fun U => U.heap.size = sz ∧ va_P (dC, dI) vwCl (wC ad cI cJ Bc Bl Pk Pr Pl Pc Pm Gf Gt Gx Gd Gm Ek Er Ea Ex Em Eb Et Ss Sm Wg Wr Md) U.heap ∧ va_K (dC, dI) vwCl [(cI, .int), (cJ, .long)] U ∧ cxt (fO 23 ad ou sz) U U.heap ∧ va_P (dC, dI) vwCl [(ou, .inl (cJ, 1, .inr (.inl Ou)))] U.heap)) (va_Qi (fun (r : Int32) (_ : Unit) => r = k_L_end ((f_X5_end Bc Bl Pk Pr Pl Pc Pm Gf Gt Gx Gd Gm Ek Er Ea Ex Em Eb Et).1)) (fun _ t => va_P (dC, dI) vwCl (wC ad cI cJ ((f_X5_end Bc Bl Pk Pr Pl Pc Pm Gf Gt Gx Gd Gm Ek Er Ea Ex Em Eb Et).2.2.1) ((f_X5_end Bc Bl Pk Pr Pl Pc Pm Gf Gt Gx Gd Gm Ek Er Ea Ex Em Eb Et).2.2.2.1) Pk Pr Pl Pc ((f_X5_end Bc Bl Pk Pr Pl Pc Pm Gf Gt Gx Gd Gm Ek Er Ea Ex Em Eb Et).2.2.2.2.1) Gf Gt Gx ((f_X5_end Bc Bl Pk Pr Pl Pc Pm Gf Gt Gx Gd Gm Ek Er Ea Ex Em Eb Et).2.2.2.2.2.1) ((f_X5_end Bc Bl Pk Pr Pl Pc Pm Gf Gt Gx Gd Gm Ek Er Ea Ex Em Eb Et).2.2.2.2.2.2.1) ((f_X5_end Bc Bl Pk Pr Pl Pc Pm Gf Gt Gx Gd Gm Ek Er Ea Ex Em Eb Et).2.2.2.2.2.2.2.1) ((f_X5_end Bc Bl Pk Pr Pl Pc Pm Gf Gt Gx Gd Gm Ek Er Ea Ex Em Eb Et).2.2.2.2.2.2.2.2.1) ((f_X5_end Bc Bl Pk Pr Pl Pc Pm Gf Gt Gx Gd Gm Ek Er Ea Ex Em Eb Et).2.2.2.2.2.2.2.2.2.1) ((f_X5_end Bc Bl Pk Pr Pl Pc Pm Gf Gt Gx Gd Gm Ek Er Ea Ex Em Eb Et).2.2.2.2.2.2.2.2.2.2.1) ((f_X5_end Bc Bl Pk Pr Pl Pc Pm Gf Gt Gx Gd Gm Ek Er Ea Ex Em Eb Et).2.2.2.2.2.2.2.2.2.2.2.1) ((f_X5_end Bc Bl Pk Pr Pl Pc Pm Gf Gt Gx Gd Gm Ek Er Ea Ex Em Eb Et).2.2.2.2.2.2.2.2.2.2.2.2.1) ((f_X5_end Bc Bl Pk Pr Pl Pc Pm Gf Gt Gx Gd Gm Ek Er Ea Ex Em Eb Et).2.2.2.2.2.2.2.2.2.2.2.2.2) Ss Sm Wg Wr Md) t.heap ∧ va_P (dC, dI) vwCl [(ou, .inl (cJ, 1, .inr (.inl (if (f_X5_end Bc Bl Pk Pr Pl Pc Pm Gf Gt Gx Gd Gm Ek Er Ea Ex Em Eb Et).1 = 0 then vp_updL Ou (0 : Int32).toNatClampNeg ((f_X5_end Bc Bl Pk Pr Pl Pc Pm Gf Gt Gx Gd Gm Ek Er Ea Ex Em Eb Et).2.1.toInt64) else Ou))))] t.heap) (fO 23 ad ou sz)) 1 6 (fO 23 ad ou sz) := by
  refine Met.ofWH (cc := cL_end) (maxL := 3) (ret := (some .int)) (hh := [(0, 8, 11, 59)]) (by decide) rfl ?_
  intro p e s m args below meth c s₁ B hml hv
  obtain ⟨rfl, hsz, hP, hK, hC, hQ⟩ := hv
  have hx := B.exec
  have hb := B.bytes
  have hr := B.returns
  have hat := atoms_spec (ws := (mWh yL_end cL_end 3 (some .int) [(0, 8, 11, 59)])) B.pre
  have hts := mWh_hts hat
  have htab := vx_table (x := yL_end) B (hat _ List.mem_cons_self)
  have hown : s.vm.findClass RL = some m.cls := findClass_of_methodNamed B.named
  have hlocks := B.notSynchronized
  subst hsz
  have hS : va_S (fO 23 ad ou s.heap.size) s.heap s.heap [] := va_S.rf
  have hl := lv_entry ([.ref (ad 0), .ref ou]) (n := 3) (Nat.le_of_ble_eq_true rfl)
  rw [lg_entry_eq]
  generalize (lg_sl ([.ref (ad 0), .ref ou]) ++ List.replicate (3 - (lg_sl ([.ref (ad 0), .ref ou])).length) Slot.unset).toArray = ls at hl ⊢
  have hl : lv_has ls 3 [(0, .ref (ad 0)), (1, .ref ou)] := hl
  refine lv_aload_n hx hb dL_end_0 rfl (lv_at hl 1 rfl) ?_
  refine lv_iconst (v := 0) hx hb dL_end_1 (by decide) ?_
  refine lv_aload_n hx hb dL_end_2 rfl (lv_at hl 0 rfl) ?_
  obtain ⟨u, hu⟩ : ∃ z, z = f_X5_end Bc Bl Pk Pr Pl Pc Pm Gf Gt Gx Gd Gm Ek Er Ea Ex Em Eb Et := ⟨_, rfl⟩
  rw [← hu] at ho
  refine qf_X5_end hst hx hb hml hown hts mM_RL_61 ⟨Nat.le_of_ble_eq_true rfl, Nat.le_of_ble_eq_true rfl⟩ ⟨Nat.le_of_ble_eq_true rfl, Nat.le_of_ble_eq_true rfl⟩ hl.1 (Nat.le_of_ble_eq_true rfl) hS dL_end_3 (fun _ h9 => Or.inl (fA_mono hS.1 h9)) hi hK hP hC hs u hu (fun hE c1 H1 locs1 hP hS hk9 hz9 ce q9 h71 h72 h73 => ?_) (fun c1 H1 locs1 hP hS hk9 hz9 => ?_)
  · rcases ho with h | h
    · exact absurd h c1
    · rw [h] at hE
      have hE : _ = x_ISE := hE
      subst hE
      refine vx_catch (name := x_ISE) (own := RL) (E := x_ISE) hown [] ⟨0, 8, 11, 59⟩ [] (by rw [htab]; rfl) (fun _ h => absurd h List.not_mem_nil) (by decide) (by decide) (hts _ mC_RL_59) (hC.ca _ (by decide +kernel)) h71 h72 h73 ?_
      refine lv_astore_n (lv' := [(2, .ref q9), (0, .ref (ad 0)), (1, .ref ou)]) hx hb dL_end_11 rfl hl (by decide) rfl (fun ls hl => ?_)
      refine lv_iconst (v := 1) hx hb dL_end_12 (by decide) ?_
      have hQ := ou_keep hQ hou hk9
      exact W.iret (v := 1) hx hb hr (fun t ht hW => ⟨⟨1, (), rfl, by rw [← hu, h]; rfl, ⟨by show va_P (dC, dI) vwCl _ t.heap; rw [ht]; first | exact hP | (rw [← hu]; exact hP), by rw [ht, ← hu, if_neg (by rw [h]; decide)]; exact hQ⟩⟩, hS.F ht⟩) hS.2.2 dL_end_13
  · have hQ := ou_keep hQ hou hk9
    refine lv_i2l hx hb dL_end_6 rfl ?_
    have hPQ : va_P (dC, dI) vwCl ((wC ad cI cJ u.2.2.1 u.2.2.2.1 Pk Pr Pl Pc u.2.2.2.2.1 Gf Gt Gx u.2.2.2.2.2.1 u.2.2.2.2.2.2.1 u.2.2.2.2.2.2.2.1 u.2.2.2.2.2.2.2.2.1 u.2.2.2.2.2.2.2.2.2.1 u.2.2.2.2.2.2.2.2.2.2.1 u.2.2.2.2.2.2.2.2.2.2.2.1 u.2.2.2.2.2.2.2.2.2.2.2.2.1 u.2.2.2.2.2.2.2.2.2.2.2.2.2 Ss Sm Wg Wr Md) ++ [(ou, .inl (cJ, 1, .inr (.inl Ou)))]) H1 := hP.app hQ
    refine va_last hx hb hK hPQ (ou_D hi hou rfl) hS 23 1 rfl rfl (by unfold vp_in; decide) dL_end_7 (fun H2 locs2 hPQ _ hS => ?_)
    have hPQ : va_P (dC, dI) vwCl ((wC ad cI cJ u.2.2.1 u.2.2.2.1 Pk Pr Pl Pc u.2.2.2.2.1 Gf Gt Gx u.2.2.2.2.2.1 u.2.2.2.2.2.2.1 u.2.2.2.2.2.2.2.1 u.2.2.2.2.2.2.2.2.1 u.2.2.2.2.2.2.2.2.2.1 u.2.2.2.2.2.2.2.2.2.2.1 u.2.2.2.2.2.2.2.2.2.2.2.1 u.2.2.2.2.2.2.2.2.2.2.2.2.1 u.2.2.2.2.2.2.2.2.2.2.2.2.2 Ss Sm Wg Wr Md) ++ [(ou, .inl (cJ, 1, .inr (.inl (vp_updL Ou (0 : Int32).toNatClampNeg u.2.1.toInt64))))]) H2 := hPQ
    have hP := hPQ.sub (ws' := (wC ad cI cJ u.2.2.1 u.2.2.2.1 Pk Pr Pl Pc u.2.2.2.2.1 Gf Gt Gx u.2.2.2.2.2.1 u.2.2.2.2.2.2.1 u.2.2.2.2.2.2.2.1 u.2.2.2.2.2.2.2.2.1 u.2.2.2.2.2.2.2.2.2.1 u.2.2.2.2.2.2.2.2.2.2.1 u.2.2.2.2.2.2.2.2.2.2.2.1 u.2.2.2.2.2.2.2.2.2.2.2.2.1 u.2.2.2.2.2.2.2.2.2.2.2.2.2 Ss Sm Wg Wr Md)) [0, 1, 2, 3, 4, 5, 6, 7, 8, 9, 10, 11, 12, 13, 14, 15, 16, 17, 18, 19, 20, 21, 22] rfl
    have hQ := hPQ.sub (ws' := [(ou, .inl (cJ, 1, .inr (.inl (vp_updL Ou (0 : Int32).toNatClampNeg u.2.1.toInt64))))]) [23] rfl
    refine lv_goto (tgt := 14) hx hb dL_end_8 (by decide) ?_
    refine lv_iconst (v := 0) hx hb dL_end_14 (by decide) ?_
    exact W.iret (v := 0) hx hb hr (fun t ht hW => ⟨⟨0, (), rfl, by rw [← hu, c1]; rfl, ⟨by show va_P (dC, dI) vwCl _ t.heap; rw [ht]; first | exact hP | (rw [← hu]; exact hP), by rw [ht, ← hu, if_pos c1]; exact hQ⟩⟩, hS.F ht⟩) hS.2.2 dL_end_15

def k_L_restored (o : Nat) : Int32 := if o = 2 then 1 else  0
set_option maxHeartbeats 4000000 in
set_option maxRecDepth 100000 in
theorem c_L_restored (l : Launch) (hst : l.stackTraces = false) (dC : Nat → ClassId) (dI : Nat → Nat → Nat) (cI cJ : ClassId) (ad : Nat → Nat) (hi : fI 23 ad) (sz : Nat) (ou : Nat) (hou : ∀ k, k < 23 → ou ≠ ad k) (Ou : Nat → Int64) (Bc : Nat → Int64) (Bl : Nat → Int32) (Pk : Nat → Int32) (Pr : Nat → Int32) (Pl : Nat → Int32) (Pc : Nat → Int64) (Pm : Int32) (Gf : Nat → Int32) (Gt : Nat → Int32) (Gx : Nat → Int32) (Gd : Int32) (Gm : Int32) (Ek : Nat → Int32) (Er : Nat → Int32) (Ea : Nat → Int32) (Ex : Nat → Int32) (Em : Int32) (Eb : Int32) (Et : Int32) (Ss : Nat → Int32) (Sm : Int32) (Wg : Nat → Int64) (Wr : Nat → Int64) (Md : Nat → Int64) (a0 : Int32) (a1 : Int32) (hs : S_X5_restored a0 a1 Ek Er Ea Em) (ho : (f_X5_restored a0 a1 Ek Er Ea Em).1 = 0 ∨ (f_X5_restored a0 a1 Ek Er Ea Em).1 = 2) : Met l yL_restored (mWh yL_restored cL_restored 5 (some .int) [(0, 10, 13, 23)]) { frames := 7, cells := 1, slots := 6, locals := 114 } (va_Pc [.ref (ad 0), .int a0, .int a1, .ref ou] (fun U => U.heap.size = sz ∧ va_P (dC, dI) vwCl (wC ad cI cJ Bc Bl Pk Pr Pl Pc Pm Gf Gt Gx Gd Gm Ek Er Ea Ex Em Eb Et Ss Sm Wg Wr Md) U.heap ∧ va_K (dC, dI) vwCl [(cI, .int), (cJ, .long)] U ∧ cxt (fO 23 ad ou sz) U U.heap ∧ va_P (dC, dI) vwCl [(ou, .inl (cJ, 1, .inr (.inl Ou)))] U.heap)) (va_Qi (fun (r : Int32) (_ : Unit) => r = k_L_restored ((f_X5_restored a0 a1 Ek Er Ea Em).1)) (fun _ t => va_P (dC, dI) vwCl (wC ad cI cJ Bc Bl Pk Pr Pl Pc Pm Gf Gt Gx Gd Gm Ek Er Ea Ex Em Eb Et Ss Sm Wg Wr Md) t.heap ∧ va_P (dC, dI) vwCl [(ou, .inl (cJ, 1, .inr (.inl (if (f_X5_restored a0 a1 Ek Er Ea Em).1 = 0 then vp_updL Ou (0 : Int32).toNatClampNeg ((f_X5_restored a0 a1 Ek Er Ea Em).2.toInt64) else Ou))))] t.heap) (fO 23 ad ou sz)) 1 6 (fO 23 ad ou sz) := by
  refine Met.ofWH (cc := cL_restored) (maxL := 5) (ret := (some .int)) (hh := [(0, 10, 13, 23)]) (by decide) rfl ?_
  intro p e s m args below meth c s₁ B hml hv
  obtain ⟨rfl, hsz, hP, hK, hC, hQ⟩ := hv
  have hx := B.exec
  have hb := B.bytes
  have hr := B.returns
  have hat := atoms_spec (ws := (mWh yL_restored cL_restored 5 (some .int) [(0, 10, 13, 23)])) B.pre
  have hts := mWh_hts hat
  have htab := vx_table (x := yL_restored) B (hat _ List.mem_cons_self)
  have hown : s.vm.findClass RL = some m.cls := findClass_of_methodNamed B.named
  have hlocks := B.notSynchronized
  subst hsz
  have hS : va_S (fO 23 ad ou s.heap.size) s.heap s.heap [] := va_S.rf
  have hl := lv_entry ([.ref (ad 0), .int a0, .int a1, .ref ou]) (n := 5) (Nat.le_of_ble_eq_true rfl)
  rw [lg_entry_eq]
  generalize (lg_sl ([.ref (ad 0), .int a0, .int a1, .ref ou]) ++ List.replicate (5 - (lg_sl ([.ref (ad 0), .int a0, .int a1, .ref ou])).length) Slot.unset).toArray = ls at hl ⊢
  have hl : lv_has ls 5 [(0, .ref (ad 0)), (1, .int a0), (2, .int a1), (3, .ref ou)] := hl
  refine lv_aload_n hx hb dL_restored_0 rfl (lv_at hl 3 rfl) ?_
  refine lv_iconst (v := 0) hx hb dL_restored_1 (by decide) ?_
  refine lv_aload_n hx hb dL_restored_2 rfl (lv_at hl 0 rfl) ?_
  refine lv_iload_n hx hb dL_restored_3 rfl (lv_at hl 1 rfl) ?_
  refine lv_iload_n hx hb dL_restored_4 rfl (lv_at hl 2 rfl) ?_
  obtain ⟨u, hu⟩ : ∃ z, z = f_X5_restored a0 a1 Ek Er Ea Em := ⟨_, rfl⟩
  rw [← hu] at ho
  refine qf_X5_restored hst hx hb hml hown hts mM_RL_64 ⟨Nat.le_of_ble_eq_true rfl, Nat.le_of_ble_eq_true rfl⟩ ⟨Nat.le_of_ble_eq_true rfl, Nat.le_of_ble_eq_true rfl⟩ hl.1 (Nat.le_of_ble_eq_true rfl) hS dL_restored_5 (fun _ h9 => Or.inl (fA_mono hS.1 h9)) hi hK hP hC a0 a1 hs u hu (fun hE c1 H1 locs1 hP hS hk9 hz9 ce q9 h71 h72 h73 => ?_) (fun c1 H1 locs1 hP hS hk9 hz9 => ?_)
  · rcases ho with h | h
    · exact absurd h c1
    · rw [h] at hE
      have hE : _ = x_IOO := hE
      subst hE
      refine vx_catch (name := x_IOO) (own := RL) (E := x_IOO) hown [] ⟨0, 10, 13, 23⟩ [] (by rw [htab]; rfl) (fun _ h => absurd h List.not_mem_nil) (by decide) (by decide) (hts _ mC_RL_23) (hC.ca _ (by decide +kernel)) h71 h72 h73 ?_
      refine lv_astore (lv' := [(4, .ref q9), (0, .ref (ad 0)), (1, .int a0), (2, .int a1), (3, .ref ou)]) hx hb dL_restored_13 hl (by decide) rfl (fun ls hl => ?_)
      refine lv_iconst (v := 1) hx hb dL_restored_15 (by decide) ?_
      have hQ := ou_keep hQ hou hk9
      exact W.iret (v := 1) hx hb hr (fun t ht hW => ⟨⟨1, (), rfl, by rw [← hu, h]; rfl, ⟨by show va_P (dC, dI) vwCl _ t.heap; rw [ht]; first | exact hP | (rw [← hu]; exact hP), by rw [ht, ← hu, if_neg (by rw [h]; decide)]; exact hQ⟩⟩, hS.F ht⟩) hS.2.2 dL_restored_16
  · have hQ := ou_keep hQ hou hk9
    refine lv_i2l hx hb dL_restored_8 rfl ?_
    have hPQ : va_P (dC, dI) vwCl ((wC ad cI cJ Bc Bl Pk Pr Pl Pc Pm Gf Gt Gx Gd Gm Ek Er Ea Ex Em Eb Et Ss Sm Wg Wr Md) ++ [(ou, .inl (cJ, 1, .inr (.inl Ou)))]) H1 := hP.app hQ
    refine va_last hx hb hK hPQ (ou_D hi hou rfl) hS 23 1 rfl rfl (by unfold vp_in; decide) dL_restored_9 (fun H2 locs2 hPQ _ hS => ?_)
    have hPQ : va_P (dC, dI) vwCl ((wC ad cI cJ Bc Bl Pk Pr Pl Pc Pm Gf Gt Gx Gd Gm Ek Er Ea Ex Em Eb Et Ss Sm Wg Wr Md) ++ [(ou, .inl (cJ, 1, .inr (.inl (vp_updL Ou (0 : Int32).toNatClampNeg u.2.toInt64))))]) H2 := hPQ
    have hP := hPQ.sub (ws' := (wC ad cI cJ Bc Bl Pk Pr Pl Pc Pm Gf Gt Gx Gd Gm Ek Er Ea Ex Em Eb Et Ss Sm Wg Wr Md)) [0, 1, 2, 3, 4, 5, 6, 7, 8, 9, 10, 11, 12, 13, 14, 15, 16, 17, 18, 19, 20, 21, 22] rfl
    have hQ := hPQ.sub (ws' := [(ou, .inl (cJ, 1, .inr (.inl (vp_updL Ou (0 : Int32).toNatClampNeg u.2.toInt64))))]) [23] rfl
    refine lv_goto (tgt := 17) hx hb dL_restored_10 (by decide) ?_
    refine lv_iconst (v := 0) hx hb dL_restored_17 (by decide) ?_
    exact W.iret (v := 0) hx hb hr (fun t ht hW => ⟨⟨0, (), rfl, by rw [← hu, c1]; rfl, ⟨by show va_P (dC, dI) vwCl _ t.heap; rw [ht]; first | exact hP | (rw [← hu]; exact hP), by rw [ht, ← hu, if_pos c1]; exact hQ⟩⟩, hS.F ht⟩) hS.2.2 dL_restored_18

def k_L_scaled (o : Nat) : Int32 := if o = 1 then 1 else  0
set_option maxHeartbeats 4000000 in
set_option maxRecDepth 100000 in
theorem c_L_scaled (l : Launch) (hst : l.stackTraces = false) (dC : Nat → ClassId) (dI : Nat → Nat → Nat) (cI cJ : ClassId) (ad : Nat → Nat) (hi : fI 23 ad) (sz : Nat) (ou : Nat) (hou : ∀ k, k < 23 → ou ≠ ad k) (Ou : Nat → Int64) (Bc : Nat → Int64) (Bl : Nat → Int32) (Pk : Nat → Int32) (Pr : Nat → Int32) (Pl : Nat → Int32) (Pc : Nat → Int64) (Pm : Int32) (Gf : Nat → Int32) (Gt : Nat → Int32) (Gx : Nat → Int32) (Gd : Int32) (Gm : Int32) (Ek : Nat → Int32) (Er : Nat → Int32) (Ea : Nat → Int32) (Ex : Nat → Int32) (Em : Int32) (Eb : Int32) (Et : Int32) (Ss : Nat → Int32) (Sm : Int32) (Wg : Nat → Int64) (Wr : Nat → Int64) (Md : Nat → Int64) (a0 : Int32) (a1 : Int32) (a2 : Int32) (hs : S_X5_scaled a0 a1 a2) (ho : (f_X5_scaled a0 a1 a2).1 = 0 ∨ (f_X5_scaled a0 a1 a2).1 = 1) : Met l yL_scaled (mWh yL_scaled cL_scaled 6 (some .int) [(0, 11, 14, 13)]) { frames := 7, cells := 1, slots := 6, locals := 117 } (va_Pc [.ref (ad 0), .int a0, .int a1, .int a2, .ref ou] (fun U => U.heap.size = sz ∧ va_P (dC, dI) vwCl (wC ad cI cJ Bc Bl Pk Pr Pl Pc Pm Gf Gt Gx Gd Gm Ek Er Ea Ex Em Eb Et Ss Sm Wg Wr Md) U.heap ∧ va_K (dC, dI) vwCl [(cI, .int), (cJ, .long)] U ∧ cxt (fO 23 ad ou sz) U U.heap ∧ va_P (dC, dI) vwCl [(ou, .inl (cJ, 1, .inr (.inl Ou)))] U.heap)) (va_Qi (fun (r : Int32) (_ : Unit) => r = k_L_scaled ((f_X5_scaled a0 a1 a2).1)) (fun _ t => va_P (dC, dI) vwCl (wC ad cI cJ Bc Bl Pk Pr Pl Pc Pm Gf Gt Gx Gd Gm Ek Er Ea Ex Em Eb Et Ss Sm Wg Wr Md) t.heap ∧ va_P (dC, dI) vwCl [(ou, .inl (cJ, 1, .inr (.inl (if (f_X5_scaled a0 a1 a2).1 = 0 then vp_updL Ou (0 : Int32).toNatClampNeg ((f_X5_scaled a0 a1 a2).2) else Ou))))] t.heap) (fO 23 ad ou sz)) 1 6 (fO 23 ad ou sz) := by
  refine Met.ofWH (cc := cL_scaled) (maxL := 6) (ret := (some .int)) (hh := [(0, 11, 14, 13)]) (by decide) rfl ?_
  intro p e s m args below meth c s₁ B hml hv
  obtain ⟨rfl, hsz, hP, hK, hC, hQ⟩ := hv
  have hx := B.exec
  have hb := B.bytes
  have hr := B.returns
  have hat := atoms_spec (ws := (mWh yL_scaled cL_scaled 6 (some .int) [(0, 11, 14, 13)])) B.pre
  have hts := mWh_hts hat
  have htab := vx_table (x := yL_scaled) B (hat _ List.mem_cons_self)
  have hown : s.vm.findClass RL = some m.cls := findClass_of_methodNamed B.named
  have hlocks := B.notSynchronized
  subst hsz
  have hS : va_S (fO 23 ad ou s.heap.size) s.heap s.heap [] := va_S.rf
  have hl := lv_entry ([.ref (ad 0), .int a0, .int a1, .int a2, .ref ou]) (n := 6) (Nat.le_of_ble_eq_true rfl)
  rw [lg_entry_eq]
  generalize (lg_sl ([.ref (ad 0), .int a0, .int a1, .int a2, .ref ou]) ++ List.replicate (6 - (lg_sl ([.ref (ad 0), .int a0, .int a1, .int a2, .ref ou])).length) Slot.unset).toArray = ls at hl ⊢
  have hl : lv_has ls 6 [(0, .ref (ad 0)), (1, .int a0), (2, .int a1), (3, .int a2), (4, .ref ou)] := hl
  refine lv_aload hx hb dL_scaled_0 (lv_at hl 4 rfl) ?_
  refine lv_iconst (v := 0) hx hb dL_scaled_2 (by decide) ?_
  refine lv_aload_n hx hb dL_scaled_3 rfl (lv_at hl 0 rfl) ?_
  refine lv_iload_n hx hb dL_scaled_4 rfl (lv_at hl 1 rfl) ?_
  refine lv_iload_n hx hb dL_scaled_5 rfl (lv_at hl 2 rfl) ?_
  refine lv_iload_n hx hb dL_scaled_6 rfl (lv_at hl 3 rfl) ?_
  obtain ⟨u, hu⟩ : ∃ z, z = f_X5_scaled a0 a1 a2 := ⟨_, rfl⟩
  rw [← hu] at ho
  refine qf_X5_scaled hst hx hb hml hown hts mM_RL_67 ⟨Nat.le_of_ble_eq_true rfl, Nat.le_of_ble_eq_true rfl⟩ ⟨Nat.le_of_ble_eq_true rfl, Nat.le_of_ble_eq_true rfl⟩ hl.1 (Nat.le_of_ble_eq_true rfl) hS dL_scaled_7 (fun _ h9 => Or.inl (fA_mono hS.1 h9)) hi hK hP hC a0 a1 a2 hs u hu (fun hE c1 H1 locs1 hP hS hk9 hz9 ce q9 h71 h72 h73 => ?_) (fun c1 H1 locs1 hP hS hk9 hz9 => ?_)
  · rcases ho with h | h
    · exact absurd h c1
    · rw [h] at hE
      have hE : _ = x_IAE := hE
      subst hE
      refine vx_catch (name := x_IAE) (own := RL) (E := x_IAE) hown [] ⟨0, 11, 14, 13⟩ [] (by rw [htab]; rfl) (fun _ h => absurd h List.not_mem_nil) (by decide) (by decide) (hts _ mC_RL_13) (hC.ca _ (by decide +kernel)) h71 h72 h73 ?_
      refine lv_astore (lv' := [(5, .ref q9), (0, .ref (ad 0)), (1, .int a0), (2, .int a1), (3, .int a2), (4, .ref ou)]) hx hb dL_scaled_14 hl (by decide) rfl (fun ls hl => ?_)
      refine lv_iconst (v := 1) hx hb dL_scaled_16 (by decide) ?_
      have hQ := ou_keep hQ hou hk9
      exact W.iret (v := 1) hx hb hr (fun t ht hW => ⟨⟨1, (), rfl, by rw [← hu, h]; rfl, ⟨by show va_P (dC, dI) vwCl _ t.heap; rw [ht]; first | exact hP | (rw [← hu]; exact hP), by rw [ht, ← hu, if_neg (by rw [h]; decide)]; exact hQ⟩⟩, hS.F ht⟩) hS.2.2 dL_scaled_17
  · have hQ := ou_keep hQ hou hk9
    have hPQ : va_P (dC, dI) vwCl ((wC ad cI cJ Bc Bl Pk Pr Pl Pc Pm Gf Gt Gx Gd Gm Ek Er Ea Ex Em Eb Et Ss Sm Wg Wr Md) ++ [(ou, .inl (cJ, 1, .inr (.inl Ou)))]) H1 := hP.app hQ
    refine va_last hx hb hK hPQ (ou_D hi hou rfl) hS 23 1 rfl rfl (by unfold vp_in; decide) dL_scaled_10 (fun H2 locs2 hPQ _ hS => ?_)
    have hPQ : va_P (dC, dI) vwCl ((wC ad cI cJ Bc Bl Pk Pr Pl Pc Pm Gf Gt Gx Gd Gm Ek Er Ea Ex Em Eb Et Ss Sm Wg Wr Md) ++ [(ou, .inl (cJ, 1, .inr (.inl (vp_updL Ou (0 : Int32).toNatClampNeg u.2))))]) H2 := hPQ
    have hP := hPQ.sub (ws' := (wC ad cI cJ Bc Bl Pk Pr Pl Pc Pm Gf Gt Gx Gd Gm Ek Er Ea Ex Em Eb Et Ss Sm Wg Wr Md)) [0, 1, 2, 3, 4, 5, 6, 7, 8, 9, 10, 11, 12, 13, 14, 15, 16, 17, 18, 19, 20, 21, 22] rfl
    have hQ := hPQ.sub (ws' := [(ou, .inl (cJ, 1, .inr (.inl (vp_updL Ou (0 : Int32).toNatClampNeg u.2))))]) [23] rfl
    refine lv_goto (tgt := 18) hx hb dL_scaled_11 (by decide) ?_
    refine lv_iconst (v := 0) hx hb dL_scaled_18 (by decide) ?_
    exact W.iret (v := 0) hx hb hr (fun t ht hW => ⟨⟨0, (), rfl, by rw [← hu, c1]; rfl, ⟨by show va_P (dC, dI) vwCl _ t.heap; rw [ht]; first | exact hP | (rw [← hu]; exact hP), by rw [ht, ← hu, if_pos c1]; exact hQ⟩⟩, hS.F ht⟩) hS.2.2 dL_scaled_19

def k_L_fraction (o : Nat) : Int32 := if o = 1 then 1 else  0
set_option maxHeartbeats 4000000 in
set_option maxRecDepth 100000 in
theorem c_L_fraction (l : Launch) (hst : l.stackTraces = false) (dC : Nat → ClassId) (dI : Nat → Nat → Nat) (cI cJ : ClassId) (ad : Nat → Nat) (hi : fI 23 ad) (sz : Nat) (ou : Nat) (hou : ∀ k, k < 23 → ou ≠ ad k) (Ou : Nat → Int64) (Bc : Nat → Int64) (Bl : Nat → Int32) (Pk : Nat → Int32) (Pr : Nat → Int32) (Pl : Nat → Int32) (Pc : Nat → Int64) (Pm : Int32) (Gf : Nat → Int32) (Gt : Nat → Int32) (Gx : Nat → Int32) (Gd : Int32) (Gm : Int32) (Ek : Nat → Int32) (Er : Nat → Int32) (Ea : Nat → Int32) (Ex : Nat → Int32) (Em : Int32) (Eb : Int32) (Et : Int32) (Ss : Nat → Int32) (Sm : Int32) (Wg : Nat → Int64) (Wr : Nat → Int64) (Md : Nat → Int64) (a0 : Int32) (a1 : Int32) (hs : S_X5_fraction a0 a1) (ho : (f_X5_fraction a0 a1).1 = 0 ∨ (f_X5_fraction a0 a1).1 = 1) : Met l yL_fraction (mWh yL_fraction cL_fraction 5 (some .int) [(0, 10, 13, 13)]) { frames := 7, cells := 1, slots := 6, locals := 118 } (va_Pc [.ref (ad 0), .int a0, .int a1, .ref ou] (fun U => U.heap.size = sz ∧ va_P (dC, dI) vwCl (wC ad cI cJ Bc Bl Pk Pr Pl Pc Pm Gf Gt Gx Gd Gm Ek Er Ea Ex Em Eb Et Ss Sm Wg Wr Md) U.heap ∧ va_K (dC, dI) vwCl [(cI, .int), (cJ, .long)] U ∧ cxt (fO 23 ad ou sz) U U.heap ∧ va_P (dC, dI) vwCl [(ou, .inl (cJ, 1, .inr (.inl Ou)))] U.heap)) (va_Qi (fun (r : Int32) (_ : Unit) => r = k_L_fraction ((f_X5_fraction a0 a1).1)) (fun _ t => va_P (dC, dI) vwCl (wC ad cI cJ Bc Bl Pk Pr Pl Pc Pm Gf Gt Gx Gd Gm Ek Er Ea Ex Em Eb Et Ss Sm Wg Wr Md) t.heap ∧ va_P (dC, dI) vwCl [(ou, .inl (cJ, 1, .inr (.inl (if (f_X5_fraction a0 a1).1 = 0 then vp_updL Ou (0 : Int32).toNatClampNeg ((f_X5_fraction a0 a1).2.toInt64) else Ou))))] t.heap) (fO 23 ad ou sz)) 1 6 (fO 23 ad ou sz) := by
  refine Met.ofWH (cc := cL_fraction) (maxL := 5) (ret := (some .int)) (hh := [(0, 10, 13, 13)]) (by decide) rfl ?_
  intro p e s m args below meth c s₁ B hml hv
  obtain ⟨rfl, hsz, hP, hK, hC, hQ⟩ := hv
  have hx := B.exec
  have hb := B.bytes
  have hr := B.returns
  have hat := atoms_spec (ws := (mWh yL_fraction cL_fraction 5 (some .int) [(0, 10, 13, 13)])) B.pre
  have hts := mWh_hts hat
  have htab := vx_table (x := yL_fraction) B (hat _ List.mem_cons_self)
  have hown : s.vm.findClass RL = some m.cls := findClass_of_methodNamed B.named
  have hlocks := B.notSynchronized
  subst hsz
  have hS : va_S (fO 23 ad ou s.heap.size) s.heap s.heap [] := va_S.rf
  have hl := lv_entry ([.ref (ad 0), .int a0, .int a1, .ref ou]) (n := 5) (Nat.le_of_ble_eq_true rfl)
  rw [lg_entry_eq]
  generalize (lg_sl ([.ref (ad 0), .int a0, .int a1, .ref ou]) ++ List.replicate (5 - (lg_sl ([.ref (ad 0), .int a0, .int a1, .ref ou])).length) Slot.unset).toArray = ls at hl ⊢
  have hl : lv_has ls 5 [(0, .ref (ad 0)), (1, .int a0), (2, .int a1), (3, .ref ou)] := hl
  refine lv_aload_n hx hb dL_fraction_0 rfl (lv_at hl 3 rfl) ?_
  refine lv_iconst (v := 0) hx hb dL_fraction_1 (by decide) ?_
  refine lv_aload_n hx hb dL_fraction_2 rfl (lv_at hl 0 rfl) ?_
  refine lv_iload_n hx hb dL_fraction_3 rfl (lv_at hl 1 rfl) ?_
  refine lv_iload_n hx hb dL_fraction_4 rfl (lv_at hl 2 rfl) ?_
  obtain ⟨u, hu⟩ : ∃ z, z = f_X5_fraction a0 a1 := ⟨_, rfl⟩
  rw [← hu] at ho
  refine qf_X5_fraction hst hx hb hml hown hts mM_RL_71 ⟨Nat.le_of_ble_eq_true rfl, Nat.le_of_ble_eq_true rfl⟩ ⟨Nat.le_of_ble_eq_true rfl, Nat.le_of_ble_eq_true rfl⟩ hl.1 (Nat.le_of_ble_eq_true rfl) hS dL_fraction_5 (fun _ h9 => Or.inl (fA_mono hS.1 h9)) hi hK hP hC a0 a1 hs u hu (fun hE c1 H1 locs1 hP hS hk9 hz9 ce q9 h71 h72 h73 => ?_) (fun c1 H1 locs1 hP hS hk9 hz9 => ?_)
  · rcases ho with h | h
    · exact absurd h c1
    · rw [h] at hE
      have hE : _ = x_IAE := hE
      subst hE
      refine vx_catch (name := x_IAE) (own := RL) (E := x_IAE) hown [] ⟨0, 10, 13, 13⟩ [] (by rw [htab]; rfl) (fun _ h => absurd h List.not_mem_nil) (by decide) (by decide) (hts _ mC_RL_13) (hC.ca _ (by decide +kernel)) h71 h72 h73 ?_
      refine lv_astore (lv' := [(4, .ref q9), (0, .ref (ad 0)), (1, .int a0), (2, .int a1), (3, .ref ou)]) hx hb dL_fraction_13 hl (by decide) rfl (fun ls hl => ?_)
      refine lv_iconst (v := 1) hx hb dL_fraction_15 (by decide) ?_
      have hQ := ou_keep hQ hou hk9
      exact W.iret (v := 1) hx hb hr (fun t ht hW => ⟨⟨1, (), rfl, by rw [← hu, h]; rfl, ⟨by show va_P (dC, dI) vwCl _ t.heap; rw [ht]; first | exact hP | (rw [← hu]; exact hP), by rw [ht, ← hu, if_neg (by rw [h]; decide)]; exact hQ⟩⟩, hS.F ht⟩) hS.2.2 dL_fraction_16
  · have hQ := ou_keep hQ hou hk9
    refine lv_i2l hx hb dL_fraction_8 rfl ?_
    have hPQ : va_P (dC, dI) vwCl ((wC ad cI cJ Bc Bl Pk Pr Pl Pc Pm Gf Gt Gx Gd Gm Ek Er Ea Ex Em Eb Et Ss Sm Wg Wr Md) ++ [(ou, .inl (cJ, 1, .inr (.inl Ou)))]) H1 := hP.app hQ
    refine va_last hx hb hK hPQ (ou_D hi hou rfl) hS 23 1 rfl rfl (by unfold vp_in; decide) dL_fraction_9 (fun H2 locs2 hPQ _ hS => ?_)
    have hPQ : va_P (dC, dI) vwCl ((wC ad cI cJ Bc Bl Pk Pr Pl Pc Pm Gf Gt Gx Gd Gm Ek Er Ea Ex Em Eb Et Ss Sm Wg Wr Md) ++ [(ou, .inl (cJ, 1, .inr (.inl (vp_updL Ou (0 : Int32).toNatClampNeg u.2.toInt64))))]) H2 := hPQ
    have hP := hPQ.sub (ws' := (wC ad cI cJ Bc Bl Pk Pr Pl Pc Pm Gf Gt Gx Gd Gm Ek Er Ea Ex Em Eb Et Ss Sm Wg Wr Md)) [0, 1, 2, 3, 4, 5, 6, 7, 8, 9, 10, 11, 12, 13, 14, 15, 16, 17, 18, 19, 20, 21, 22] rfl
    have hQ := hPQ.sub (ws' := [(ou, .inl (cJ, 1, .inr (.inl (vp_updL Ou (0 : Int32).toNatClampNeg u.2.toInt64))))]) [23] rfl
    refine lv_goto (tgt := 17) hx hb dL_fraction_10 (by decide) ?_
    refine lv_iconst (v := 0) hx hb dL_fraction_17 (by decide) ?_
    exact W.iret (v := 0) hx hb hr (fun t ht hW => ⟨⟨0, (), rfl, by rw [← hu, c1]; rfl, ⟨by show va_P (dC, dI) vwCl _ t.heap; rw [ht]; first | exact hP | (rw [← hu]; exact hP), by rw [ht, ← hu, if_pos c1]; exact hQ⟩⟩, hS.F ht⟩) hS.2.2 dL_fraction_18

def k_L_shown (o : Nat) : Int32 := if o = 1 then 1 else if o = 2 then 2 else  0
set_option maxHeartbeats 4000000 in
set_option maxRecDepth 100000 in
theorem c_L_shown (l : Launch) (hst : l.stackTraces = false) (dC : Nat → ClassId) (dI : Nat → Nat → Nat) (cI cJ : ClassId) (ad : Nat → Nat) (hi : fI 23 ad) (sz : Nat) (ou : Nat) (hou : ∀ k, k < 23 → ou ≠ ad k) (Ou : Nat → Int64) (Bc : Nat → Int64) (Bl : Nat → Int32) (Pk : Nat → Int32) (Pr : Nat → Int32) (Pl : Nat → Int32) (Pc : Nat → Int64) (Pm : Int32) (Gf : Nat → Int32) (Gt : Nat → Int32) (Gx : Nat → Int32) (Gd : Int32) (Gm : Int32) (Ek : Nat → Int32) (Er : Nat → Int32) (Ea : Nat → Int32) (Ex : Nat → Int32) (Em : Int32) (Eb : Int32) (Et : Int32) (Ss : Nat → Int32) (Sm : Int32) (Wg : Nat → Int64) (Wr : Nat → Int64) (Md : Nat → Int64) (a0 : Int32) (a1 : Int32) (a2 : Int32) (hs : S_X5_shown a0 a1 a2 Bc Ss Sm) (ho : (f_X5_shown a0 a1 a2 Bc Ss Sm).1 = 0 ∨ (f_X5_shown a0 a1 a2 Bc Ss Sm).1 = 1 ∨ (f_X5_shown a0 a1 a2 Bc Ss Sm).1 = 2) : Met l yL_shown (mWh yL_shown cL_shown 6 (some .int) [(0, 12, 15, 13), (0, 12, 19, 23)]) { frames := 9, cells := 2, slots := 12, locals := 195 } (va_Pc [.ref (ad 0), .int a0, .int a1, .int a2, .ref ou] (fun U => U.heap.size = sz ∧ va_P (dC, dI) vwCl (wC ad cI cJ Bc Bl Pk Pr Pl Pc Pm Gf Gt Gx Gd Gm Ek Er Ea Ex Em Eb Et Ss Sm Wg Wr Md) U.heap ∧ va_K (dC, dI) vwCl [(cI, .int), (cJ, .long)] U ∧ cxt (fO 23 ad ou sz) U U.heap ∧ va_P (dC, dI) vwCl [(ou, .inl (cJ, 1, .inr (.inl Ou)))] U.heap)) (va_Qi (fun (r : Int32) (_ : Unit) => r = k_L_shown ((f_X5_shown a0 a1 a2 Bc Ss Sm).1)) (fun _ t => va_P (dC, dI) vwCl (wC ad cI cJ Bc Bl Pk Pr Pl Pc Pm Gf Gt Gx Gd Gm Ek Er Ea Ex Em Eb Et ((f_X5_shown a0 a1 a2 Bc Ss Sm).2.2.1) ((f_X5_shown a0 a1 a2 Bc Ss Sm).2.2.2) Wg Wr Md) t.heap ∧ va_P (dC, dI) vwCl [(ou, .inl (cJ, 1, .inr (.inl (if (f_X5_shown a0 a1 a2 Bc Ss Sm).1 = 0 then vp_updL Ou (0 : Int32).toNatClampNeg ((f_X5_shown a0 a1 a2 Bc Ss Sm).2.1.toInt64) else Ou))))] t.heap) (fO 23 ad ou sz)) 2 12 (fO 23 ad ou sz) := by
  refine Met.ofWH (cc := cL_shown) (maxL := 6) (ret := (some .int)) (hh := [(0, 12, 15, 13), (0, 12, 19, 23)]) (by decide) rfl ?_
  intro p e s m args below meth c s₁ B hml hv
  obtain ⟨rfl, hsz, hP, hK, hC, hQ⟩ := hv
  have hx := B.exec
  have hb := B.bytes
  have hr := B.returns
  have hat := atoms_spec (ws := (mWh yL_shown cL_shown 6 (some .int) [(0, 12, 15, 13), (0, 12, 19, 23)])) B.pre
  have hts := mWh_hts hat
  have htab := vx_table (x := yL_shown) B (hat _ List.mem_cons_self)
  have hown : s.vm.findClass RL = some m.cls := findClass_of_methodNamed B.named
  have hlocks := B.notSynchronized
  subst hsz
  have hS : va_S (fO 23 ad ou s.heap.size) s.heap s.heap [] := va_S.rf
  have hl := lv_entry ([.ref (ad 0), .int a0, .int a1, .int a2, .ref ou]) (n := 6) (Nat.le_of_ble_eq_true rfl)
  rw [lg_entry_eq]
  generalize (lg_sl ([.ref (ad 0), .int a0, .int a1, .int a2, .ref ou]) ++ List.replicate (6 - (lg_sl ([.ref (ad 0), .int a0, .int a1, .int a2, .ref ou])).length) Slot.unset).toArray = ls at hl ⊢
  have hl : lv_has ls 6 [(0, .ref (ad 0)), (1, .int a0), (2, .int a1), (3, .int a2), (4, .ref ou)] := hl
  refine lv_aload hx hb dL_shown_0 (lv_at hl 4 rfl) ?_
  refine lv_iconst (v := 0) hx hb dL_shown_2 (by decide) ?_
  refine lv_aload_n hx hb dL_shown_3 rfl (lv_at hl 0 rfl) ?_
  refine lv_iload_n hx hb dL_shown_4 rfl (lv_at hl 1 rfl) ?_
  refine lv_iload_n hx hb dL_shown_5 rfl (lv_at hl 2 rfl) ?_
  refine lv_iload_n hx hb dL_shown_6 rfl (lv_at hl 3 rfl) ?_
  obtain ⟨u, hu⟩ : ∃ z, z = f_X5_shown a0 a1 a2 Bc Ss Sm := ⟨_, rfl⟩
  rw [← hu] at ho
  refine qf_X5_shown hst hx hb hml hown hts mM_RL_74 ⟨Nat.le_of_ble_eq_true rfl, Nat.le_of_ble_eq_true rfl⟩ ⟨Nat.le_of_ble_eq_true rfl, Nat.le_of_ble_eq_true rfl⟩ hl.1 (Nat.le_of_ble_eq_true rfl) hS dL_shown_7 (fun _ h9 => Or.inl (fA_mono hS.1 h9)) hi hK hP hC a0 a1 a2 hs u hu (fun hE c1 H1 locs1 hP hS hk9 hz9 ce q9 h71 h72 h73 => ?_) (fun c1 H1 locs1 hP hS hk9 hz9 => ?_)
  · rcases ho with h | h | h
    · exact absurd h c1
    · rw [h] at hE
      have hE : _ = x_IAE := hE
      subst hE
      refine vx_catch (name := x_IAE) (own := RL) (E := x_IAE) hown [] ⟨0, 12, 15, 13⟩ [⟨0, 12, 19, 23⟩] (by rw [htab]; rfl) (fun _ h => absurd h List.not_mem_nil) (by decide) (by decide) (hts _ mC_RL_13) (hC.ca _ (by decide +kernel)) h71 h72 h73 ?_
      refine lv_astore (lv' := [(5, .ref q9), (0, .ref (ad 0)), (1, .int a0), (2, .int a1), (3, .int a2), (4, .ref ou)]) hx hb dL_shown_15 hl (by decide) rfl (fun ls hl => ?_)
      refine lv_iconst (v := 1) hx hb dL_shown_17 (by decide) ?_
      have hQ := ou_keep hQ hou hk9
      exact W.iret (v := 1) hx hb hr (fun t ht hW => ⟨⟨1, (), rfl, by rw [← hu, h]; rfl, ⟨by show va_P (dC, dI) vwCl _ t.heap; rw [ht]; first | exact hP | (rw [← hu]; exact hP), by rw [ht, ← hu, if_neg (by rw [h]; decide)]; exact hQ⟩⟩, hS.F ht⟩) hS.2.2 dL_shown_18
    · rw [h] at hE
      have hE : _ = x_IOO := hE
      subst hE
      refine vx_catch (name := x_IOO) (own := RL) (E := x_IOO) hown [⟨0, 12, 15, 13⟩] ⟨0, 12, 19, 23⟩ [] (by rw [htab]; rfl) (List.forall_mem_cons.mpr ⟨Or.inr ⟨by decide, x_IAE, hts _ mC_RL_13, hC.nc _ _ (by decide +kernel) (by decide +kernel) (by decide +kernel)⟩, fun _ h => absurd h List.not_mem_nil⟩) (by decide) (by decide) (hts _ mC_RL_23) (hC.ca _ (by decide +kernel)) h71 h72 h73 ?_
      refine lv_astore (lv' := [(5, .ref q9), (0, .ref (ad 0)), (1, .int a0), (2, .int a1), (3, .int a2), (4, .ref ou)]) hx hb dL_shown_19 hl (by decide) rfl (fun ls hl => ?_)
      refine lv_iconst (v := 2) hx hb dL_shown_21 (by decide) ?_
      have hQ := ou_keep hQ hou hk9
      exact W.iret (v := 2) hx hb hr (fun t ht hW => ⟨⟨2, (), rfl, by rw [← hu, h]; rfl, ⟨by show va_P (dC, dI) vwCl _ t.heap; rw [ht]; first | exact hP | (rw [← hu]; exact hP), by rw [ht, ← hu, if_neg (by rw [h]; decide)]; exact hQ⟩⟩, hS.F ht⟩) hS.2.2 dL_shown_22
  · have hQ := ou_keep hQ hou hk9
    refine lv_i2l hx hb dL_shown_10 rfl ?_
    have hPQ : va_P (dC, dI) vwCl ((wC ad cI cJ Bc Bl Pk Pr Pl Pc Pm Gf Gt Gx Gd Gm Ek Er Ea Ex Em Eb Et u.2.2.1 u.2.2.2 Wg Wr Md) ++ [(ou, .inl (cJ, 1, .inr (.inl Ou)))]) H1 := hP.app hQ
    refine va_last hx hb hK hPQ (ou_D hi hou rfl) hS 23 1 rfl rfl (by unfold vp_in; decide) dL_shown_11 (fun H2 locs2 hPQ _ hS => ?_)
    have hPQ : va_P (dC, dI) vwCl ((wC ad cI cJ Bc Bl Pk Pr Pl Pc Pm Gf Gt Gx Gd Gm Ek Er Ea Ex Em Eb Et u.2.2.1 u.2.2.2 Wg Wr Md) ++ [(ou, .inl (cJ, 1, .inr (.inl (vp_updL Ou (0 : Int32).toNatClampNeg u.2.1.toInt64))))]) H2 := hPQ
    have hP := hPQ.sub (ws' := (wC ad cI cJ Bc Bl Pk Pr Pl Pc Pm Gf Gt Gx Gd Gm Ek Er Ea Ex Em Eb Et u.2.2.1 u.2.2.2 Wg Wr Md)) [0, 1, 2, 3, 4, 5, 6, 7, 8, 9, 10, 11, 12, 13, 14, 15, 16, 17, 18, 19, 20, 21, 22] rfl
    have hQ := hPQ.sub (ws' := [(ou, .inl (cJ, 1, .inr (.inl (vp_updL Ou (0 : Int32).toNatClampNeg u.2.1.toInt64))))]) [23] rfl
    refine lv_goto (tgt := 23) hx hb dL_shown_12 (by decide) ?_
    refine lv_iconst (v := 0) hx hb dL_shown_23 (by decide) ?_
    exact W.iret (v := 0) hx hb hr (fun t ht hW => ⟨⟨0, (), rfl, by rw [← hu, c1]; rfl, ⟨by show va_P (dC, dI) vwCl _ t.heap; rw [ht]; first | exact hP | (rw [← hu]; exact hP), by rw [ht, ← hu, if_pos c1]; exact hQ⟩⟩, hS.F ht⟩) hS.2.2 dL_shown_24

def k_L_told (o : Nat) : Int32 := if o = 1 then 1 else if o = 2 then 2 else  0
set_option maxHeartbeats 4000000 in
set_option maxRecDepth 100000 in
theorem c_L_told (l : Launch) (hst : l.stackTraces = false) (dC : Nat → ClassId) (dI : Nat → Nat → Nat) (cI cJ : ClassId) (ad : Nat → Nat) (hi : fI 23 ad) (sz : Nat) (ou : Nat) (hou : ∀ k, k < 23 → ou ≠ ad k) (Ou : Nat → Int64) (Bc : Nat → Int64) (Bl : Nat → Int32) (Pk : Nat → Int32) (Pr : Nat → Int32) (Pl : Nat → Int32) (Pc : Nat → Int64) (Pm : Int32) (Gf : Nat → Int32) (Gt : Nat → Int32) (Gx : Nat → Int32) (Gd : Int32) (Gm : Int32) (Ek : Nat → Int32) (Er : Nat → Int32) (Ea : Nat → Int32) (Ex : Nat → Int32) (Em : Int32) (Eb : Int32) (Et : Int32) (Ss : Nat → Int32) (Sm : Int32) (Wg : Nat → Int64) (Wr : Nat → Int64) (Md : Nat → Int64) (a0 : Int32) (a1 : Int32) (hs : S_X5_told a0 a1 Bl Pm Gd) (ho : (f_X5_told a0 a1 Bl Pm Gd).1 = 0 ∨ (f_X5_told a0 a1 Bl Pm Gd).1 = 1 ∨ (f_X5_told a0 a1 Bl Pm Gd).1 = 2) : Met l yL_told (mWh yL_told cL_told 5 (some .int) [(0, 10, 13, 13), (0, 10, 17, 23)]) { frames := 8, cells := 1, slots := 6, locals := 135 } (va_Pc [.ref (ad 0), .int a0, .int a1, .ref ou] (fun U => U.heap.size = sz ∧ va_P (dC, dI) vwCl (wC ad cI cJ Bc Bl Pk Pr Pl Pc Pm Gf Gt Gx Gd Gm Ek Er Ea Ex Em Eb Et Ss Sm Wg Wr Md) U.heap ∧ va_K (dC, dI) vwCl [(cI, .int), (cJ, .long)] U ∧ cxt (fO 23 ad ou sz) U U.heap ∧ va_P (dC, dI) vwCl [(ou, .inl (cJ, 1, .inr (.inl Ou)))] U.heap)) (va_Qi (fun (r : Int32) (_ : Unit) => r = k_L_told ((f_X5_told a0 a1 Bl Pm Gd).1)) (fun _ t => va_P (dC, dI) vwCl (wC ad cI cJ Bc Bl Pk Pr Pl Pc Pm Gf Gt Gx Gd Gm Ek Er Ea Ex Em Eb Et Ss Sm Wg Wr Md) t.heap ∧ va_P (dC, dI) vwCl [(ou, .inl (cJ, 1, .inr (.inl (if (f_X5_told a0 a1 Bl Pm Gd).1 = 0 then vp_updL Ou (0 : Int32).toNatClampNeg ((f_X5_told a0 a1 Bl Pm Gd).2.toInt64) else Ou))))] t.heap) (fO 23 ad ou sz)) 1 6 (fO 23 ad ou sz) := by
  refine Met.ofWH (cc := cL_told) (maxL := 5) (ret := (some .int)) (hh := [(0, 10, 13, 13), (0, 10, 17, 23)]) (by decide) rfl ?_
  intro p e s m args below meth c s₁ B hml hv
  obtain ⟨rfl, hsz, hP, hK, hC, hQ⟩ := hv
  have hx := B.exec
  have hb := B.bytes
  have hr := B.returns
  have hat := atoms_spec (ws := (mWh yL_told cL_told 5 (some .int) [(0, 10, 13, 13), (0, 10, 17, 23)])) B.pre
  have hts := mWh_hts hat
  have htab := vx_table (x := yL_told) B (hat _ List.mem_cons_self)
  have hown : s.vm.findClass RL = some m.cls := findClass_of_methodNamed B.named
  have hlocks := B.notSynchronized
  subst hsz
  have hS : va_S (fO 23 ad ou s.heap.size) s.heap s.heap [] := va_S.rf
  have hl := lv_entry ([.ref (ad 0), .int a0, .int a1, .ref ou]) (n := 5) (Nat.le_of_ble_eq_true rfl)
  rw [lg_entry_eq]
  generalize (lg_sl ([.ref (ad 0), .int a0, .int a1, .ref ou]) ++ List.replicate (5 - (lg_sl ([.ref (ad 0), .int a0, .int a1, .ref ou])).length) Slot.unset).toArray = ls at hl ⊢
  have hl : lv_has ls 5 [(0, .ref (ad 0)), (1, .int a0), (2, .int a1), (3, .ref ou)] := hl
  refine lv_aload_n hx hb dL_told_0 rfl (lv_at hl 3 rfl) ?_
  refine lv_iconst (v := 0) hx hb dL_told_1 (by decide) ?_
  refine lv_aload_n hx hb dL_told_2 rfl (lv_at hl 0 rfl) ?_
  refine lv_iload_n hx hb dL_told_3 rfl (lv_at hl 1 rfl) ?_
  refine lv_iload_n hx hb dL_told_4 rfl (lv_at hl 2 rfl) ?_
  obtain ⟨u, hu⟩ : ∃ z, z = f_X5_told a0 a1 Bl Pm Gd := ⟨_, rfl⟩
  rw [← hu] at ho
  refine qf_X5_told hst hx hb hml hown hts mM_RL_78 ⟨Nat.le_of_ble_eq_true rfl, Nat.le_of_ble_eq_true rfl⟩ ⟨Nat.le_of_ble_eq_true rfl, Nat.le_of_ble_eq_true rfl⟩ hl.1 (Nat.le_of_ble_eq_true rfl) hS dL_told_5 (fun _ h9 => Or.inl (fA_mono hS.1 h9)) hi hK hP hC a0 a1 hs u hu (fun hE c1 H1 locs1 hP hS hk9 hz9 ce q9 h71 h72 h73 => ?_) (fun c1 H1 locs1 hP hS hk9 hz9 => ?_)
  · rcases ho with h | h | h
    · exact absurd h c1
    · rw [h] at hE
      have hE : _ = x_IAE := hE
      subst hE
      refine vx_catch (name := x_IAE) (own := RL) (E := x_IAE) hown [] ⟨0, 10, 13, 13⟩ [⟨0, 10, 17, 23⟩] (by rw [htab]; rfl) (fun _ h => absurd h List.not_mem_nil) (by decide) (by decide) (hts _ mC_RL_13) (hC.ca _ (by decide +kernel)) h71 h72 h73 ?_
      refine lv_astore (lv' := [(4, .ref q9), (0, .ref (ad 0)), (1, .int a0), (2, .int a1), (3, .ref ou)]) hx hb dL_told_13 hl (by decide) rfl (fun ls hl => ?_)
      refine lv_iconst (v := 1) hx hb dL_told_15 (by decide) ?_
      have hQ := ou_keep hQ hou hk9
      exact W.iret (v := 1) hx hb hr (fun t ht hW => ⟨⟨1, (), rfl, by rw [← hu, h]; rfl, ⟨by show va_P (dC, dI) vwCl _ t.heap; rw [ht]; first | exact hP | (rw [← hu]; exact hP), by rw [ht, ← hu, if_neg (by rw [h]; decide)]; exact hQ⟩⟩, hS.F ht⟩) hS.2.2 dL_told_16
    · rw [h] at hE
      have hE : _ = x_IOO := hE
      subst hE
      refine vx_catch (name := x_IOO) (own := RL) (E := x_IOO) hown [⟨0, 10, 13, 13⟩] ⟨0, 10, 17, 23⟩ [] (by rw [htab]; rfl) (List.forall_mem_cons.mpr ⟨Or.inr ⟨by decide, x_IAE, hts _ mC_RL_13, hC.nc _ _ (by decide +kernel) (by decide +kernel) (by decide +kernel)⟩, fun _ h => absurd h List.not_mem_nil⟩) (by decide) (by decide) (hts _ mC_RL_23) (hC.ca _ (by decide +kernel)) h71 h72 h73 ?_
      refine lv_astore (lv' := [(4, .ref q9), (0, .ref (ad 0)), (1, .int a0), (2, .int a1), (3, .ref ou)]) hx hb dL_told_17 hl (by decide) rfl (fun ls hl => ?_)
      refine lv_iconst (v := 2) hx hb dL_told_19 (by decide) ?_
      have hQ := ou_keep hQ hou hk9
      exact W.iret (v := 2) hx hb hr (fun t ht hW => ⟨⟨2, (), rfl, by rw [← hu, h]; rfl, ⟨by show va_P (dC, dI) vwCl _ t.heap; rw [ht]; first | exact hP | (rw [← hu]; exact hP), by rw [ht, ← hu, if_neg (by rw [h]; decide)]; exact hQ⟩⟩, hS.F ht⟩) hS.2.2 dL_told_20
  · have hQ := ou_keep hQ hou hk9
    refine lv_i2l hx hb dL_told_8 rfl ?_
    have hPQ : va_P (dC, dI) vwCl ((wC ad cI cJ Bc Bl Pk Pr Pl Pc Pm Gf Gt Gx Gd Gm Ek Er Ea Ex Em Eb Et Ss Sm Wg Wr Md) ++ [(ou, .inl (cJ, 1, .inr (.inl Ou)))]) H1 := hP.app hQ
    refine va_last hx hb hK hPQ (ou_D hi hou rfl) hS 23 1 rfl rfl (by unfold vp_in; decide) dL_told_9 (fun H2 locs2 hPQ _ hS => ?_)
    have hPQ : va_P (dC, dI) vwCl ((wC ad cI cJ Bc Bl Pk Pr Pl Pc Pm Gf Gt Gx Gd Gm Ek Er Ea Ex Em Eb Et Ss Sm Wg Wr Md) ++ [(ou, .inl (cJ, 1, .inr (.inl (vp_updL Ou (0 : Int32).toNatClampNeg u.2.toInt64))))]) H2 := hPQ
    have hP := hPQ.sub (ws' := (wC ad cI cJ Bc Bl Pk Pr Pl Pc Pm Gf Gt Gx Gd Gm Ek Er Ea Ex Em Eb Et Ss Sm Wg Wr Md)) [0, 1, 2, 3, 4, 5, 6, 7, 8, 9, 10, 11, 12, 13, 14, 15, 16, 17, 18, 19, 20, 21, 22] rfl
    have hQ := hPQ.sub (ws' := [(ou, .inl (cJ, 1, .inr (.inl (vp_updL Ou (0 : Int32).toNatClampNeg u.2.toInt64))))]) [23] rfl
    refine lv_goto (tgt := 21) hx hb dL_told_10 (by decide) ?_
    refine lv_iconst (v := 0) hx hb dL_told_21 (by decide) ?_
    exact W.iret (v := 0) hx hb hr (fun t ht hW => ⟨⟨0, (), rfl, by rw [← hu, c1]; rfl, ⟨by show va_P (dC, dI) vwCl _ t.heap; rw [ht]; first | exact hP | (rw [← hu]; exact hP), by rw [ht, ← hu, if_pos c1]; exact hQ⟩⟩, hS.F ht⟩) hS.2.2 dL_told_22
